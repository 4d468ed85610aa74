theorem dL_law_385 : decode cL_law 385 = .ok (.aload_n 1, 1) := by decide +kernel
theorem dL_law_386 : decode cL_law 386 = .ok (.iconst 0, 1) := by decide +kernel
theorem dL_law_387 : decode cL_law 387 = .ok (.invokevirtual 162, 3) := by decide +kernel
theorem dL_law_390 : decode cL_law 390 = .ok (.istore 13, 2) := by decide +kernel
theorem dL_law_392 : decode cL_law 392 = .ok (.dload 7, 2) := by decide +kernel
theorem dL_law_394 : decode cL_law 394 = .ok (.dconst 1, 1) := by decide +kernel
theorem dL_law_395 : decode cL_law 395 = .ok (.dcmp .l, 1) := by decide +kernel
theorem dL_law_396 : decode cL_law 396 = .ok (.ifCond .ne 10, 3) := by decide +kernel
theorem dL_law_399 : decode cL_law 399 = .ok (.iload 13, 2) := by decide +kernel
theorem dL_law_401 : decode cL_law 401 = .ok (.bipush (-2), 2) := by decide +kernel
theorem dL_law_403 : decode cL_law 403 = .ok (.if_icmp .ne 10, 3) := by decide +kernel
theorem dL_law_406 : decode cL_law 406 = .ok (.iload 13, 2) := by decide +kernel
theorem dL_law_408 : decode cL_law 408 = .ok (.aload_n 2, 1) := by decide +kernel
theorem dL_law_409 : decode cL_law 409 = .ok (.arraylength, 1) := by decide +kernel
theorem dL_law_410 : decode cL_law 410 = .ok (.if_icmp .lt 5, 3) := by decide +kernel
theorem dL_law_413 : decode cL_law 413 = .ok (.iconst 0, 1) := by decide +kernel
theorem dL_law_414 : decode cL_law 414 = .ok (.ireturn, 1) := by decide +kernel
theorem dL_law_415 : decode cL_law 415 = .ok (.iload 13, 2) := by decide +kernel
theorem dL_law_417 : decode cL_law 417 = .ok (.ifCond .lt 77, 3) := by decide +kernel
theorem dL_law_420 : decode cL_law 420 = .ok (.aload_n 2, 1) := by decide +kernel
theorem dL_law_421 : decode cL_law 421 = .ok (.iload 13, 2) := by decide +kernel
theorem dL_law_423 : decode cL_law 423 = .ok (.iaload, 1) := by decide +kernel
theorem dL_law_424 : decode cL_law 424 = .ok (.bipush 9, 2) := by decide +kernel
theorem dL_law_426 : decode cL_law 426 = .ok (.if_icmp .ge 68, 3) := by decide +kernel
theorem dL_law_429 : decode cL_law 429 = .ok (.aload_n 1, 1) := by decide +kernel
theorem dL_law_430 : decode cL_law 430 = .ok (.iload 13, 2) := by decide +kernel
theorem dL_law_432 : decode cL_law 432 = .ok (.iconst 0, 1) := by decide +kernel
theorem dL_law_433 : decode cL_law 433 = .ok (.aload_n 2, 1) := by decide +kernel
theorem dL_law_434 : decode cL_law 434 = .ok (.iload 13, 2) := by decide +kernel
theorem dL_law_436 : decode cL_law 436 = .ok (.iaload, 1) := by decide +kernel
theorem dL_law_437 : decode cL_law 437 = .ok (.iconst 1, 1) := by decide +kernel
theorem dL_law_438 : decode cL_law 438 = .ok (.iadd, 1) := by decide +kernel
theorem dL_law_439 : decode cL_law 439 = .ok (.invokevirtual 105, 3) := by decide +kernel
theorem dL_law_442 : decode cL_law 442 = .ok (.aload_n 2, 1) := by decide +kernel
theorem dL_law_443 : decode cL_law 443 = .ok (.iload 13, 2) := by decide +kernel
theorem dL_law_445 : decode cL_law 445 = .ok (.iaload, 1) := by decide +kernel
theorem dL_law_446 : decode cL_law 446 = .ok (.if_icmp .ne 46, 3) := by decide +kernel
theorem dL_law_449 : decode cL_law 449 = .ok (.aload_n 1, 1) := by decide +kernel
theorem dL_law_450 : decode cL_law 450 = .ok (.iload 6, 2) := by decide +kernel
theorem dL_law_452 : decode cL_law 452 = .ok (.iconst 0, 1) := by decide +kernel
theorem dL_law_453 : decode cL_law 453 = .ok (.invokevirtual 130, 3) := by decide +kernel
theorem dL_law_456 : decode cL_law 456 = .ok (.aload_n 1, 1) := by decide +kernel
theorem dL_law_457 : decode cL_law 457 = .ok (.iload 6, 2) := by decide +kernel
theorem dL_law_459 : decode cL_law 459 = .ok (.iconst 1, 1) := by decide +kernel
theorem dL_law_460 : decode cL_law 460 = .ok (.invokevirtual 130, 3) := by decide +kernel
theorem dL_law_463 : decode cL_law 463 = .ok (.invokestatic 134, 3) := by decide +kernel
theorem dL_law_466 : decode cL_law 466 = .ok (.dload 7, 2) := by decide +kernel
theorem dL_law_468 : decode cL_law 468 = .ok (.dcmp .g, 1) := by decide +kernel
theorem dL_law_469 : decode cL_law 469 = .ok (.ifCond .le 23, 3) := by decide +kernel
theorem dL_law_472 : decode cL_law 472 = .ok (.aload_n 1, 1) := by decide +kernel
theorem dL_law_473 : decode cL_law 473 = .ok (.iload 13, 2) := by decide +kernel
theorem dL_law_475 : decode cL_law 475 = .ok (.iconst 0, 1) := by decide +kernel
theorem dL_law_476 : decode cL_law 476 = .ok (.aload_n 2, 1) := by decide +kernel
theorem dL_law_477 : decode cL_law 477 = .ok (.iload 13, 2) := by decide +kernel
theorem dL_law_479 : decode cL_law 479 = .ok (.iaload, 1) := by decide +kernel
theorem dL_law_480 : decode cL_law 480 = .ok (.invokevirtual 105, 3) := by decide +kernel
theorem dL_law_483 : decode cL_law 483 = .ok (.aload_n 2, 1) := by decide +kernel
theorem dL_law_484 : decode cL_law 484 = .ok (.iload 13, 2) := by decide +kernel
theorem dL_law_486 : decode cL_law 486 = .ok (.iaload, 1) := by decide +kernel
theorem dL_law_487 : decode cL_law 487 = .ok (.iconst 1, 1) := by decide +kernel
theorem dL_law_488 : decode cL_law 488 = .ok (.iadd, 1) := by decide +kernel
theorem dL_law_489 : decode cL_law 489 = .ok (.if_icmp .eq 5, 3) := by decide +kernel
theorem dL_law_492 : decode cL_law 492 = .ok (.iconst 0, 1) := by decide +kernel
theorem dL_law_493 : decode cL_law 493 = .ok (.ireturn, 1) := by decide +kernel
theorem dL_law_494 : decode cL_law 494 = .ok (.iinc 6 1, 3) := by decide +kernel
theorem dL_law_497 : decode cL_law 497 = .ok (.goto (-447), 3) := by decide +kernel
theorem dL_law_500 : decode cL_law 500 = .ok (.iload_n 3, 1) := by decide +kernel
theorem dL_law_501 : decode cL_law 501 = .ok (.ifCond .eq 13, 3) := by decide +kernel
theorem dL_law_504 : decode cL_law 504 = .ok (.dload 4, 2) := by decide +kernel
theorem dL_law_506 : decode cL_law 506 = .ok (.dconst 0, 1) := by decide +kernel
theorem dL_law_507 : decode cL_law 507 = .ok (.dcmp .l, 1) := by decide +kernel
theorem dL_law_508 : decode cL_law 508 = .ok (.ifCond .eq 16, 3) := by decide +kernel
theorem dL_law_511 : decode cL_law 511 = .ok (.goto 11, 3) := by decide +kernel
theorem dL_law_514 : decode cL_law 514 = .ok (.dload 4, 2) := by decide +kernel
theorem dL_law_516 : decode cL_law 516 = .ok (.invokestatic 141, 3) := by decide +kernel
theorem dL_law_519 : decode cL_law 519 = .ok (.ifCond .ne 5, 3) := by decide +kernel
theorem dL_law_522 : decode cL_law 522 = .ok (.iconst 0, 1) := by decide +kernel
theorem dL_law_523 : decode cL_law 523 = .ok (.ireturn, 1) := by decide +kernel
theorem dL_law_524 : decode cL_law 524 = .ok (.dconst 0, 1) := by decide +kernel
theorem dL_law_525 : decode cL_law 525 = .ok (.dstore 6, 2) := by decide +kernel
theorem dL_law_527 : decode cL_law 527 = .ok (.iconst 1, 1) := by decide +kernel
theorem dL_law_528 : decode cL_law 528 = .ok (.istore 8, 2) := by decide +kernel
theorem dL_law_530 : decode cL_law 530 = .ok (.iload 8, 2) := by decide +kernel
theorem dL_law_532 : decode cL_law 532 = .ok (.iconst 4, 1) := by decide +kernel
theorem dL_law_533 : decode cL_law 533 = .ok (.if_icmp .ge 85, 3) := by decide +kernel
theorem dL_law_536 : decode cL_law 536 = .ok (.aload_n 1, 1) := by decide +kernel
theorem dL_law_537 : decode cL_law 537 = .ok (.iload 8, 2) := by decide +kernel
theorem dL_law_539 : decode cL_law 539 = .ok (.iconst 0, 1) := by decide +kernel
theorem dL_law_540 : decode cL_law 540 = .ok (.iconst 0, 1) := by decide +kernel
theorem dL_law_541 : decode cL_law 541 = .ok (.invokevirtual 165, 3) := by decide +kernel
theorem dL_law_544 : decode cL_law 544 = .ok (.aload_n 1, 1) := by decide +kernel
theorem dL_law_545 : decode cL_law 545 = .ok (.iload 8, 2) := by decide +kernel
theorem dL_law_547 : decode cL_law 547 = .ok (.iconst 0, 1) := by decide +kernel
theorem dL_law_548 : decode cL_law 548 = .ok (.iconst 1, 1) := by decide +kernel
theorem dL_law_549 : decode cL_law 549 = .ok (.invokevirtual 165, 3) := by decide +kernel
theorem dL_law_552 : decode cL_law 552 = .ok (.invokestatic 134, 3) := by decide +kernel
theorem dL_law_555 : decode cL_law 555 = .ok (.dstore 9, 2) := by decide +kernel
theorem dL_law_557 : decode cL_law 557 = .ok (.aload_n 1, 1) := by decide +kernel
theorem dL_law_558 : decode cL_law 558 = .ok (.iload 8, 2) := by decide +kernel
theorem dL_law_560 : decode cL_law 560 = .ok (.iconst 1, 1) := by decide +kernel
theorem dL_law_561 : decode cL_law 561 = .ok (.iconst 0, 1) := by decide +kernel
theorem dL_law_562 : decode cL_law 562 = .ok (.invokevirtual 165, 3) := by decide +kernel
theorem dL_law_565 : decode cL_law 565 = .ok (.aload_n 1, 1) := by decide +kernel
theorem dL_law_566 : decode cL_law 566 = .ok (.iload 8, 2) := by decide +kernel
theorem dL_law_568 : decode cL_law 568 = .ok (.iconst 1, 1) := by decide +kernel
theorem dL_law_569 : decode cL_law 569 = .ok (.iconst 1, 1) := by decide +kernel
theorem dL_law_570 : decode cL_law 570 = .ok (.invokevirtual 165, 3) := by decide +kernel
theorem dL_law_573 : decode cL_law 573 = .ok (.invokestatic 134, 3) := by decide +kernel
theorem dL_law_576 : decode cL_law 576 = .ok (.dstore 11, 2) := by decide +kernel
theorem dL_law_578 : decode cL_law 578 = .ok (.dload 9, 2) := by decide +kernel
theorem dL_law_580 : decode cL_law 580 = .ok (.dconst 0, 1) := by decide +kernel
theorem dL_law_581 : decode cL_law 581 = .ok (.dcmp .g, 1) := by decide +kernel
theorem dL_law_582 : decode cL_law 582 = .ok (.ifCond .lt 24, 3) := by decide +kernel
theorem dL_law_585 : decode cL_law 585 = .ok (.dload 9, 2) := by decide +kernel
theorem dL_law_587 : decode cL_law 587 = .ok (.dconst 1, 1) := by decide +kernel
theorem dL_law_588 : decode cL_law 588 = .ok (.dcmp .l, 1) := by decide +kernel
theorem dL_law_589 : decode cL_law 589 = .ok (.ifCond .gt 17, 3) := by decide +kernel
theorem dL_law_592 : decode cL_law 592 = .ok (.dload 11, 2) := by decide +kernel
theorem dL_law_594 : decode cL_law 594 = .ok (.dconst 0, 1) := by decide +kernel
theorem dL_law_595 : decode cL_law 595 = .ok (.dcmp .g, 1) := by decide +kernel
theorem dL_law_596 : decode cL_law 596 = .ok (.ifCond .lt 10, 3) := by decide +kernel
theorem dL_law_599 : decode cL_law 599 = .ok (.dload 11, 2) := by decide +kernel
theorem dL_law_601 : decode cL_law 601 = .ok (.dconst 1, 1) := by decide +kernel
theorem dL_law_602 : decode cL_law 602 = .ok (.dcmp .l, 1) := by decide +kernel
theorem dL_law_603 : decode cL_law 603 = .ok (.ifCond .le 5, 3) := by decide +kernel
theorem dL_law_606 : decode cL_law 606 = .ok (.iconst 0, 1) := by decide +kernel
theorem dL_law_607 : decode cL_law 607 = .ok (.ireturn, 1) := by decide +kernel
theorem dL_law_608 : decode cL_law 608 = .ok (.dload 11, 2) := by decide +kernel
theorem dL_law_610 : decode cL_law 610 = .ok (.dstore 6, 2) := by decide +kernel
theorem dL_law_612 : decode cL_law 612 = .ok (.iinc 8 1, 3) := by decide +kernel
theorem dL_law_615 : decode cL_law 615 = .ok (.goto (-85), 3) := by decide +kernel
theorem dL_law_618 : decode cL_law 618 = .ok (.iconst 0, 1) := by decide +kernel
theorem dL_law_619 : decode cL_law 619 = .ok (.istore 8, 2) := by decide +kernel
theorem dL_law_621 : decode cL_law 621 = .ok (.iload 8, 2) := by decide +kernel
theorem dL_law_623 : decode cL_law 623 = .ok (.iconst 4, 1) := by decide +kernel
theorem dL_law_624 : decode cL_law 624 = .ok (.if_icmp .ge 208, 3) := by decide +kernel
theorem dL_law_627 : decode cL_law 627 = .ok (.aload_n 1, 1) := by decide +kernel
theorem dL_law_628 : decode cL_law 628 = .ok (.iconst 0, 1) := by decide +kernel
theorem dL_law_629 : decode cL_law 629 = .ok (.iconst 0, 1) := by decide +kernel
theorem dL_law_630 : decode cL_law 630 = .ok (.invokevirtual 168, 3) := by decide +kernel
theorem dL_law_633 : decode cL_law 633 = .ok (.aload_n 1, 1) := by decide +kernel
theorem dL_law_634 : decode cL_law 634 = .ok (.iconst 0, 1) := by decide +kernel
theorem dL_law_635 : decode cL_law 635 = .ok (.iconst 1, 1) := by decide +kernel
theorem dL_law_636 : decode cL_law 636 = .ok (.invokevirtual 168, 3) := by decide +kernel
theorem dL_law_639 : decode cL_law 639 = .ok (.invokestatic 134, 3) := by decide +kernel
theorem dL_law_642 : decode cL_law 642 = .ok (.dstore 9, 2) := by decide +kernel
theorem dL_law_644 : decode cL_law 644 = .ok (.aload_n 1, 1) := by decide +kernel
theorem dL_law_645 : decode cL_law 645 = .ok (.bipush 16, 2) := by decide +kernel
theorem dL_law_647 : decode cL_law 647 = .ok (.iconst 1, 1) := by decide +kernel
theorem dL_law_648 : decode cL_law 648 = .ok (.iload 8, 2) := by decide +kernel
theorem dL_law_650 : decode cL_law 650 = .ok (.ishl, 1) := by decide +kernel
theorem dL_law_651 : decode cL_law 651 = .ok (.imul, 1) := by decide +kernel
theorem dL_law_652 : decode cL_law 652 = .ok (.iconst 1, 1) := by decide +kernel
theorem dL_law_653 : decode cL_law 653 = .ok (.iload 8, 2) := by decide +kernel
theorem dL_law_655 : decode cL_law 655 = .ok (.ishl, 1) := by decide +kernel
theorem dL_law_656 : decode cL_law 656 = .ok (.iadd, 1) := by decide +kernel
theorem dL_law_657 : decode cL_law 657 = .ok (.iconst 0, 1) := by decide +kernel
theorem dL_law_658 : decode cL_law 658 = .ok (.invokevirtual 168, 3) := by decide +kernel
theorem dL_law_661 : decode cL_law 661 = .ok (.aload_n 1, 1) := by decide +kernel
theorem dL_law_662 : decode cL_law 662 = .ok (.bipush 16, 2) := by decide +kernel
theorem dL_law_664 : decode cL_law 664 = .ok (.iconst 1, 1) := by decide +kernel
theorem dL_law_665 : decode cL_law 665 = .ok (.iload 8, 2) := by decide +kernel
theorem dL_law_667 : decode cL_law 667 = .ok (.ishl, 1) := by decide +kernel
theorem dL_law_668 : decode cL_law 668 = .ok (.imul, 1) := by decide +kernel
theorem dL_law_669 : decode cL_law 669 = .ok (.iconst 1, 1) := by decide +kernel
theorem dL_law_670 : decode cL_law 670 = .ok (.iload 8, 2) := by decide +kernel
theorem dL_law_672 : decode cL_law 672 = .ok (.ishl, 1) := by decide +kernel
theorem dL_law_673 : decode cL_law 673 = .ok (.iadd, 1) := by decide +kernel
theorem dL_law_674 : decode cL_law 674 = .ok (.iconst 1, 1) := by decide +kernel
theorem dL_law_675 : decode cL_law 675 = .ok (.invokevirtual 168, 3) := by decide +kernel
theorem dL_law_678 : decode cL_law 678 = .ok (.invokestatic 134, 3) := by decide +kernel
theorem dL_law_681 : decode cL_law 681 = .ok (.dstore 11, 2) := by decide +kernel
theorem dL_law_683 : decode cL_law 683 = .ok (.aload_n 1, 1) := by decide +kernel
theorem dL_law_684 : decode cL_law 684 = .ok (.iconst 1, 1) := by decide +kernel
theorem dL_law_685 : decode cL_law 685 = .ok (.iload 8, 2) := by decide +kernel
theorem dL_law_687 : decode cL_law 687 = .ok (.ishl, 1) := by decide +kernel
theorem dL_law_688 : decode cL_law 688 = .ok (.iconst 0, 1) := by decide +kernel
theorem dL_law_689 : decode cL_law 689 = .ok (.invokevirtual 168, 3) := by decide +kernel
theorem dL_law_692 : decode cL_law 692 = .ok (.aload_n 1, 1) := by decide +kernel
theorem dL_law_693 : decode cL_law 693 = .ok (.iconst 1, 1) := by decide +kernel
theorem dL_law_694 : decode cL_law 694 = .ok (.iload 8, 2) := by decide +kernel
theorem dL_law_696 : decode cL_law 696 = .ok (.ishl, 1) := by decide +kernel
theorem dL_law_697 : decode cL_law 697 = .ok (.iconst 1, 1) := by decide +kernel
theorem dL_law_698 : decode cL_law 698 = .ok (.invokevirtual 168, 3) := by decide +kernel
theorem dL_law_701 : decode cL_law 701 = .ok (.invokestatic 134, 3) := by decide +kernel
theorem dL_law_704 : decode cL_law 704 = .ok (.dstore 13, 2) := by decide +kernel
theorem dL_law_706 : decode cL_law 706 = .ok (.aload_n 1, 1) := by decide +kernel
theorem dL_law_707 : decode cL_law 707 = .ok (.iload 8, 2) := by decide +kernel
theorem dL_law_709 : decode cL_law 709 = .ok (.iconst 5, 1) := by decide +kernel
theorem dL_law_710 : decode cL_law 710 = .ok (.invokevirtual 171, 3) := by decide +kernel
theorem dL_law_713 : decode cL_law 713 = .ok (.istore 15, 2) := by decide +kernel
theorem dL_law_715 : decode cL_law 715 = .ok (.aload_n 1, 1) := by decide +kernel
theorem dL_law_716 : decode cL_law 716 = .ok (.iload 8, 2) := by decide +kernel
theorem dL_law_718 : decode cL_law 718 = .ok (.bipush 6, 2) := by decide +kernel
theorem dL_law_720 : decode cL_law 720 = .ok (.invokevirtual 171, 3) := by decide +kernel
theorem dL_law_723 : decode cL_law 723 = .ok (.istore 16, 2) := by decide +kernel
theorem dL_law_725 : decode cL_law 725 = .ok (.iload 15, 2) := by decide +kernel
theorem dL_law_727 : decode cL_law 727 = .ok (.iload 16, 2) := by decide +kernel
theorem dL_law_729 : decode cL_law 729 = .ok (.iadd, 1) := by decide +kernel
theorem dL_law_730 : decode cL_law 730 = .ok (.bipush 12, 2) := by decide +kernel
theorem dL_law_732 : decode cL_law 732 = .ok (.if_icmp .le 40, 3) := by decide +kernel
theorem dL_law_735 : decode cL_law 735 = .ok (.dload 11, 2) := by decide +kernel
theorem dL_law_737 : decode cL_law 737 = .ok (.dload 9, 2) := by decide +kernel
theorem dL_law_739 : decode cL_law 739 = .ok (.ldc2_w 113, 3) := by decide +kernel
theorem dL_law_742 : decode cL_law 742 = .ok (.dsub, 1) := by decide +kernel
theorem dL_law_743 : decode cL_law 743 = .ok (.dcmp .g, 1) := by decide +kernel
theorem dL_law_744 : decode cL_law 744 = .ok (.ifCond .ge 14, 3) := by decide +kernel
theorem dL_law_747 : decode cL_law 747 = .ok (.iload 15, 2) := by decide +kernel
theorem dL_law_749 : decode cL_law 749 = .ok (.bipush 12, 2) := by decide +kernel
theorem dL_law_751 : decode cL_law 751 = .ok (.iadd, 1) := by decide +kernel
theorem dL_law_752 : decode cL_law 752 = .ok (.iload 16, 2) := by decide +kernel
theorem dL_law_754 : decode cL_law 754 = .ok (.isub, 1) := by decide +kernel
theorem dL_law_755 : decode cL_law 755 = .ok (.ifCond .gt 15, 3) := by decide +kernel
theorem dL_law_758 : decode cL_law 758 = .ok (.dload 13, 2) := by decide +kernel
theorem dL_law_760 : decode cL_law 760 = .ok (.dload 9, 2) := by decide +kernel
theorem dL_law_762 : decode cL_law 762 = .ok (.ldc2_w 113, 3) := by decide +kernel
theorem dL_law_765 : decode cL_law 765 = .ok (.dadd, 1) := by decide +kernel
theorem dL_law_766 : decode cL_law 766 = .ok (.dcmp .l, 1) := by decide +kernel
theorem dL_law_767 : decode cL_law 767 = .ok (.ifCond .le 5, 3) := by decide +kernel
theorem dL_law_770 : decode cL_law 770 = .ok (.iconst 0, 1) := by decide +kernel
theorem dL_law_771 : decode cL_law 771 = .ok (.ireturn, 1) := by decide +kernel
theorem dL_law_772 : decode cL_law 772 = .ok (.iload 15, 2) := by decide +kernel
theorem dL_law_774 : decode cL_law 774 = .ok (.iload 16, 2) := by decide +kernel
theorem dL_law_776 : decode cL_law 776 = .ok (.iadd, 1) := by decide +kernel
theorem dL_law_777 : decode cL_law 777 = .ok (.bipush 12, 2) := by decide +kernel
theorem dL_law_779 : decode cL_law 779 = .ok (.if_icmp .ne 47, 3) := by decide +kernel
theorem dL_law_782 : decode cL_law 782 = .ok (.iload 15, 2) := by decide +kernel
theorem dL_law_784 : decode cL_law 784 = .ok (.ifCond .le 42, 3) := by decide +kernel
theorem dL_law_787 : decode cL_law 787 = .ok (.iload 15, 2) := by decide +kernel
theorem dL_law_789 : decode cL_law 789 = .ok (.bipush 12, 2) := by decide +kernel
theorem dL_law_791 : decode cL_law 791 = .ok (.if_icmp .ge 35, 3) := by decide +kernel
theorem dL_law_794 : decode cL_law 794 = .ok (.dload 11, 2) := by decide +kernel
theorem dL_law_796 : decode cL_law 796 = .ok (.dload 9, 2) := by decide +kernel
theorem dL_law_798 : decode cL_law 798 = .ok (.dsub, 1) := by decide +kernel
theorem dL_law_799 : decode cL_law 799 = .ok (.invokestatic 109, 3) := by decide +kernel
theorem dL_law_802 : decode cL_law 802 = .ok (.ldc2_w 113, 3) := by decide +kernel
theorem dL_law_805 : decode cL_law 805 = .ok (.dcmp .l, 1) := by decide +kernel
theorem dL_law_806 : decode cL_law 806 = .ok (.ifCond .gt 18, 3) := by decide +kernel
theorem dL_law_809 : decode cL_law 809 = .ok (.dload 13, 2) := by decide +kernel
theorem dL_law_811 : decode cL_law 811 = .ok (.dload 9, 2) := by decide +kernel
theorem dL_law_813 : decode cL_law 813 = .ok (.dsub, 1) := by decide +kernel
theorem dL_law_814 : decode cL_law 814 = .ok (.invokestatic 109, 3) := by decide +kernel
theorem dL_law_817 : decode cL_law 817 = .ok (.ldc2_w 113, 3) := by decide +kernel
theorem dL_law_820 : decode cL_law 820 = .ok (.dcmp .l, 1) := by decide +kernel
theorem dL_law_821 : decode cL_law 821 = .ok (.ifCond .le 5, 3) := by decide +kernel
theorem dL_law_824 : decode cL_law 824 = .ok (.iconst 0, 1) := by decide +kernel
theorem dL_law_825 : decode cL_law 825 = .ok (.ireturn, 1) := by decide +kernel
theorem dL_law_826 : decode cL_law 826 = .ok (.iinc 8 1, 3) := by decide +kernel
theorem dL_law_829 : decode cL_law 829 = .ok (.goto (-208), 3) := by decide +kernel
theorem dL_law_832 : decode cL_law 832 = .ok (.aload_n 1, 1) := by decide +kernel
theorem dL_law_833 : decode cL_law 833 = .ok (.iconst (-1), 1) := by decide +kernel
theorem dL_law_834 : decode cL_law 834 = .ok (.iconst 0, 1) := by decide +kernel
theorem dL_law_835 : decode cL_law 835 = .ok (.invokevirtual 173, 3) := by decide +kernel
theorem dL_law_838 : decode cL_law 838 = .ok (.aload_n 1, 1) := by decide +kernel
theorem dL_law_839 : decode cL_law 839 = .ok (.iconst (-1), 1) := by decide +kernel
theorem dL_law_840 : decode cL_law 840 = .ok (.iconst 1, 1) := by decide +kernel
theorem dL_law_841 : decode cL_law 841 = .ok (.invokevirtual 173, 3) := by decide +kernel
theorem dL_law_844 : decode cL_law 844 = .ok (.invokestatic 134, 3) := by decide +kernel
theorem dL_law_847 : decode cL_law 847 = .ok (.dstore 8, 2) := by decide +kernel
theorem dL_law_849 : decode cL_law 849 = .ok (.iconst 0, 1) := by decide +kernel
theorem dL_law_850 : decode cL_law 850 = .ok (.istore 10, 2) := by decide +kernel
theorem dL_law_852 : decode cL_law 852 = .ok (.iconst 0, 1) := by decide +kernel
theorem dL_law_853 : decode cL_law 853 = .ok (.istore 11, 2) := by decide +kernel
theorem dL_law_855 : decode cL_law 855 = .ok (.iconst 0, 1) := by decide +kernel
theorem dL_law_856 : decode cL_law 856 = .ok (.istore 12, 2) := by decide +kernel
theorem dL_law_858 : decode cL_law 858 = .ok (.iload 12, 2) := by decide +kernel
theorem dL_law_860 : decode cL_law 860 = .ok (.iconst 4, 1) := by decide +kernel
theorem dL_law_861 : decode cL_law 861 = .ok (.if_icmp .ge 65, 3) := by decide +kernel
theorem dL_law_864 : decode cL_law 864 = .ok (.aload_n 1, 1) := by decide +kernel
theorem dL_law_865 : decode cL_law 865 = .ok (.iload 12, 2) := by decide +kernel
theorem dL_law_867 : decode cL_law 867 = .ok (.iconst 0, 1) := by decide +kernel
theorem dL_law_868 : decode cL_law 868 = .ok (.invokevirtual 173, 3) := by decide +kernel
theorem dL_law_871 : decode cL_law 871 = .ok (.l2i, 1) := by decide +kernel
theorem dL_law_872 : decode cL_law 872 = .ok (.istore 13, 2) := by decide +kernel
theorem dL_law_874 : decode cL_law 874 = .ok (.iload 13, 2) := by decide +kernel
theorem dL_law_876 : decode cL_law 876 = .ok (.ifCond .lt 20, 3) := by decide +kernel
theorem dL_law_879 : decode cL_law 879 = .ok (.iload 13, 2) := by decide +kernel
theorem dL_law_881 : decode cL_law 881 = .ok (.iconst 3, 1) := by decide +kernel
theorem dL_law_882 : decode cL_law 882 = .ok (.if_icmp .gt 14, 3) := by decide +kernel
theorem dL_law_885 : decode cL_law 885 = .ok (.iload 10, 2) := by decide +kernel
theorem dL_law_887 : decode cL_law 887 = .ok (.iload 13, 2) := by decide +kernel
theorem dL_law_889 : decode cL_law 889 = .ok (.ishr, 1) := by decide +kernel
theorem dL_law_890 : decode cL_law 890 = .ok (.iconst 1, 1) := by decide +kernel
theorem dL_law_891 : decode cL_law 891 = .ok (.iand, 1) := by decide +kernel
theorem dL_law_892 : decode cL_law 892 = .ok (.iconst 1, 1) := by decide +kernel
theorem dL_law_893 : decode cL_law 893 = .ok (.if_icmp .ne 5, 3) := by decide +kernel
theorem dL_law_896 : decode cL_law 896 = .ok (.iconst 0, 1) := by decide +kernel
theorem dL_law_897 : decode cL_law 897 = .ok (.ireturn, 1) := by decide +kernel
theorem dL_law_898 : decode cL_law 898 = .ok (.iload 10, 2) := by decide +kernel
theorem dL_law_900 : decode cL_law 900 = .ok (.iconst 1, 1) := by decide +kernel
theorem dL_law_901 : decode cL_law 901 = .ok (.iload 13, 2) := by decide +kernel
theorem dL_law_903 : decode cL_law 903 = .ok (.ishl, 1) := by decide +kernel
theorem dL_law_904 : decode cL_law 904 = .ok (.ior, 1) := by decide +kernel
theorem dL_law_905 : decode cL_law 905 = .ok (.istore 10, 2) := by decide +kernel
theorem dL_law_907 : decode cL_law 907 = .ok (.iload 11, 2) := by decide +kernel
theorem dL_law_909 : decode cL_law 909 = .ok (.aload_n 1, 1) := by decide +kernel
theorem dL_law_910 : decode cL_law 910 = .ok (.iload 13, 2) := by decide +kernel
theorem dL_law_912 : decode cL_law 912 = .ok (.bipush 7, 2) := by decide +kernel
theorem dL_law_914 : decode cL_law 914 = .ok (.invokevirtual 171, 3) := by decide +kernel
theorem dL_law_917 : decode cL_law 917 = .ok (.iadd, 1) := by decide +kernel
theorem dL_law_918 : decode cL_law 918 = .ok (.istore 11, 2) := by decide +kernel
theorem dL_law_920 : decode cL_law 920 = .ok (.iinc 12 1, 3) := by decide +kernel
theorem dL_law_923 : decode cL_law 923 = .ok (.goto (-65), 3) := by decide +kernel
theorem dL_law_926 : decode cL_law 926 = .ok (.dload 8, 2) := by decide +kernel
theorem dL_law_928 : decode cL_law 928 = .ok (.iload 11, 2) := by decide +kernel
theorem dL_law_930 : decode cL_law 930 = .ok (.i2d, 1) := by decide +kernel
theorem dL_law_931 : decode cL_law 931 = .ok (.ldc2_w 113, 3) := by decide +kernel
theorem dL_law_934 : decode cL_law 934 = .ok (.dadd, 1) := by decide +kernel
theorem dL_law_935 : decode cL_law 935 = .ok (.dcmp .l, 1) := by decide +kernel
theorem dL_law_936 : decode cL_law 936 = .ok (.ifCond .gt 27, 3) := by decide +kernel
theorem dL_law_939 : decode cL_law 939 = .ok (.dload 8, 2) := by decide +kernel
theorem dL_law_941 : decode cL_law 941 = .ok (.aload_n 1, 1) := by decide +kernel
theorem dL_law_942 : decode cL_law 942 = .ok (.aload_n 1, 1) := by decide +kernel
theorem dL_law_943 : decode cL_law 943 = .ok (.iconst 0, 1) := by decide +kernel
theorem dL_law_944 : decode cL_law 944 = .ok (.iconst 0, 1) := by decide +kernel
theorem dL_law_945 : decode cL_law 945 = .ok (.invokevirtual 173, 3) := by decide +kernel
theorem dL_law_948 : decode cL_law 948 = .ok (.l2i, 1) := by decide +kernel
theorem dL_law_949 : decode cL_law 949 = .ok (.bipush 7, 2) := by decide +kernel
theorem dL_law_951 : decode cL_law 951 = .ok (.invokevirtual 171, 3) := by decide +kernel
theorem dL_law_954 : decode cL_law 954 = .ok (.i2d, 1) := by decide +kernel
theorem dL_law_955 : decode cL_law 955 = .ok (.ldc2_w 113, 3) := by decide +kernel
theorem dL_law_958 : decode cL_law 958 = .ok (.dsub, 1) := by decide +kernel
theorem dL_law_959 : decode cL_law 959 = .ok (.dcmp .g, 1) := by decide +kernel
theorem dL_law_960 : decode cL_law 960 = .ok (.ifCond .ge 5, 3) := by decide +kernel
theorem dL_law_963 : decode cL_law 963 = .ok (.iconst 0, 1) := by decide +kernel
theorem dL_law_964 : decode cL_law 964 = .ok (.ireturn, 1) := by decide +kernel
theorem dL_law_965 : decode cL_law 965 = .ok (.iconst 0, 1) := by decide +kernel
theorem dL_law_966 : decode cL_law 966 = .ok (.istore 12, 2) := by decide +kernel
theorem dL_law_968 : decode cL_law 968 = .ok (.iload 12, 2) := by decide +kernel
theorem dL_law_970 : decode cL_law 970 = .ok (.bipush 6, 2) := by decide +kernel
theorem dL_law_972 : decode cL_law 972 = .ok (.if_icmp .ge 161, 3) := by decide +kernel
theorem dL_law_975 : decode cL_law 975 = .ok (.aload_n 1, 1) := by decide +kernel
theorem dL_law_976 : decode cL_law 976 = .ok (.bipush 65, 2) := by decide +kernel
theorem dL_law_978 : decode cL_law 978 = .ok (.iload 12, 2) := by decide +kernel
theorem dL_law_980 : decode cL_law 980 = .ok (.ishl, 1) := by decide +kernel
theorem dL_law_981 : decode cL_law 981 = .ok (.iconst 0, 1) := by decide +kernel
theorem dL_law_982 : decode cL_law 982 = .ok (.invokevirtual 176, 3) := by decide +kernel
theorem dL_law_985 : decode cL_law 985 = .ok (.aload_n 1, 1) := by decide +kernel
theorem dL_law_986 : decode cL_law 986 = .ok (.bipush 65, 2) := by decide +kernel
theorem dL_law_988 : decode cL_law 988 = .ok (.iload 12, 2) := by decide +kernel
theorem dL_law_990 : decode cL_law 990 = .ok (.ishl, 1) := by decide +kernel
theorem dL_law_991 : decode cL_law 991 = .ok (.iconst 1, 1) := by decide +kernel
theorem dL_law_992 : decode cL_law 992 = .ok (.invokevirtual 176, 3) := by decide +kernel
theorem dL_law_995 : decode cL_law 995 = .ok (.invokestatic 134, 3) := by decide +kernel
theorem dL_law_998 : decode cL_law 998 = .ok (.dstore 13, 2) := by decide +kernel
theorem dL_law_1000 : decode cL_law 1000 = .ok (.aload_n 1, 1) := by decide +kernel
theorem dL_law_1001 : decode cL_law 1001 = .ok (.iconst 0, 1) := by decide +kernel
theorem dL_law_1002 : decode cL_law 1002 = .ok (.iconst 0, 1) := by decide +kernel
theorem dL_law_1003 : decode cL_law 1003 = .ok (.invokevirtual 176, 3) := by decide +kernel
theorem dL_law_1006 : decode cL_law 1006 = .ok (.aload_n 1, 1) := by decide +kernel
theorem dL_law_1007 : decode cL_law 1007 = .ok (.iconst 0, 1) := by decide +kernel
theorem dL_law_1008 : decode cL_law 1008 = .ok (.iconst 1, 1) := by decide +kernel
theorem dL_law_1009 : decode cL_law 1009 = .ok (.invokevirtual 176, 3) := by decide +kernel
theorem dL_law_1012 : decode cL_law 1012 = .ok (.invokestatic 134, 3) := by decide +kernel
theorem dL_law_1015 : decode cL_law 1015 = .ok (.dstore 15, 2) := by decide +kernel
theorem dL_law_1017 : decode cL_law 1017 = .ok (.aload_n 1, 1) := by decide +kernel
theorem dL_law_1018 : decode cL_law 1018 = .ok (.iload 12, 2) := by decide +kernel
theorem dL_law_1020 : decode cL_law 1020 = .ok (.bipush 8, 2) := by decide +kernel
theorem dL_law_1022 : decode cL_law 1022 = .ok (.invokevirtual 171, 3) := by decide +kernel
theorem dL_law_1025 : decode cL_law 1025 = .ok (.bipush 6, 2) := by decide +kernel
theorem dL_law_1027 : decode cL_law 1027 = .ok (.if_icmp .ge 15, 3) := by decide +kernel
theorem dL_law_1030 : decode cL_law 1030 = .ok (.dload 13, 2) := by decide +kernel
theorem dL_law_1032 : decode cL_law 1032 = .ok (.dload 15, 2) := by decide +kernel
theorem dL_law_1034 : decode cL_law 1034 = .ok (.ldc2_w 113, 3) := by decide +kernel
theorem dL_law_1037 : decode cL_law 1037 = .ok (.dsub, 1) := by decide +kernel
theorem dL_law_1038 : decode cL_law 1038 = .ok (.dcmp .g, 1) := by decide +kernel
theorem dL_law_1039 : decode cL_law 1039 = .ok (.ifCond .lt 56, 3) := by decide +kernel
theorem dL_law_1042 : decode cL_law 1042 = .ok (.aload_n 1, 1) := by decide +kernel
theorem dL_law_1043 : decode cL_law 1043 = .ok (.iload 12, 2) := by decide +kernel
theorem dL_law_1045 : decode cL_law 1045 = .ok (.bipush 8, 2) := by decide +kernel
theorem dL_law_1047 : decode cL_law 1047 = .ok (.invokevirtual 171, 3) := by decide +kernel
theorem dL_law_1050 : decode cL_law 1050 = .ok (.bipush 6, 2) := by decide +kernel
theorem dL_law_1052 : decode cL_law 1052 = .ok (.if_icmp .le 15, 3) := by decide +kernel
theorem dL_law_1055 : decode cL_law 1055 = .ok (.dload 13, 2) := by decide +kernel
theorem dL_law_1057 : decode cL_law 1057 = .ok (.dload 15, 2) := by decide +kernel
theorem dL_law_1059 : decode cL_law 1059 = .ok (.ldc2_w 113, 3) := by decide +kernel
theorem dL_law_1062 : decode cL_law 1062 = .ok (.dadd, 1) := by decide +kernel
theorem dL_law_1063 : decode cL_law 1063 = .ok (.dcmp .l, 1) := by decide +kernel
theorem dL_law_1064 : decode cL_law 1064 = .ok (.ifCond .gt 31, 3) := by decide +kernel
theorem dL_law_1067 : decode cL_law 1067 = .ok (.aload_n 1, 1) := by decide +kernel
theorem dL_law_1068 : decode cL_law 1068 = .ok (.iload 12, 2) := by decide +kernel
theorem dL_law_1070 : decode cL_law 1070 = .ok (.bipush 8, 2) := by decide +kernel
theorem dL_law_1072 : decode cL_law 1072 = .ok (.invokevirtual 171, 3) := by decide +kernel
theorem dL_law_1075 : decode cL_law 1075 = .ok (.bipush 6, 2) := by decide +kernel
theorem dL_law_1077 : decode cL_law 1077 = .ok (.if_icmp .ne 20, 3) := by decide +kernel
theorem dL_law_1080 : decode cL_law 1080 = .ok (.dload 13, 2) := by decide +kernel
theorem dL_law_1082 : decode cL_law 1082 = .ok (.dload 15, 2) := by decide +kernel
theorem dL_law_1084 : decode cL_law 1084 = .ok (.dsub, 1) := by decide +kernel
theorem dL_law_1085 : decode cL_law 1085 = .ok (.invokestatic 109, 3) := by decide +kernel
theorem dL_law_1088 : decode cL_law 1088 = .ok (.ldc2_w 113, 3) := by decide +kernel
theorem dL_law_1091 : decode cL_law 1091 = .ok (.dcmp .l, 1) := by decide +kernel
theorem dL_law_1092 : decode cL_law 1092 = .ok (.ifCond .le 5, 3) := by decide +kernel
theorem dL_law_1095 : decode cL_law 1095 = .ok (.iconst 0, 1) := by decide +kernel
theorem dL_law_1096 : decode cL_law 1096 = .ok (.ireturn, 1) := by decide +kernel
theorem dL_law_1097 : decode cL_law 1097 = .ok (.aload_n 1, 1) := by decide +kernel
theorem dL_law_1098 : decode cL_law 1098 = .ok (.iconst 1, 1) := by decide +kernel
theorem dL_law_1099 : decode cL_law 1099 = .ok (.iload 12, 2) := by decide +kernel
theorem dL_law_1101 : decode cL_law 1101 = .ok (.ishl, 1) := by decide +kernel
theorem dL_law_1102 : decode cL_law 1102 = .ok (.iconst 0, 1) := by decide +kernel
theorem dL_law_1103 : decode cL_law 1103 = .ok (.invokevirtual 179, 3) := by decide +kernel
theorem dL_law_1106 : decode cL_law 1106 = .ok (.lconst 1, 1) := by decide +kernel
theorem dL_law_1107 : decode cL_law 1107 = .ok (.lcmp, 1) := by decide +kernel
theorem dL_law_1108 : decode cL_law 1108 = .ok (.ifCond .ne 17, 3) := by decide +kernel
theorem dL_law_1111 : decode cL_law 1111 = .ok (.aload_n 1, 1) := by decide +kernel
theorem dL_law_1112 : decode cL_law 1112 = .ok (.iconst 1, 1) := by decide +kernel
theorem dL_law_1113 : decode cL_law 1113 = .ok (.iload 12, 2) := by decide +kernel
theorem dL_law_1115 : decode cL_law 1115 = .ok (.ishl, 1) := by decide +kernel
theorem dL_law_1116 : decode cL_law 1116 = .ok (.iconst 1, 1) := by decide +kernel
theorem dL_law_1117 : decode cL_law 1117 = .ok (.invokevirtual 179, 3) := by decide +kernel
theorem dL_law_1120 : decode cL_law 1120 = .ok (.lconst 1, 1) := by decide +kernel
theorem dL_law_1121 : decode cL_law 1121 = .ok (.lcmp, 1) := by decide +kernel
theorem dL_law_1122 : decode cL_law 1122 = .ok (.ifCond .eq 5, 3) := by decide +kernel
theorem dL_law_1125 : decode cL_law 1125 = .ok (.iconst 0, 1) := by decide +kernel
theorem dL_law_1126 : decode cL_law 1126 = .ok (.ireturn, 1) := by decide +kernel
theorem dL_law_1127 : decode cL_law 1127 = .ok (.iinc 12 1, 3) := by decide +kernel
theorem dL_law_1130 : decode cL_law 1130 = .ok (.goto (-162), 3) := by decide +kernel
theorem dL_law_1133 : decode cL_law 1133 = .ok (.iconst 0, 1) := by decide +kernel
theorem dL_law_1134 : decode cL_law 1134 = .ok (.istore 12, 2) := by decide +kernel
theorem dL_law_1136 : decode cL_law 1136 = .ok (.iload 12, 2) := by decide +kernel
theorem dL_law_1138 : decode cL_law 1138 = .ok (.bipush 99, 2) := by decide +kernel
theorem dL_law_1140 : decode cL_law 1140 = .ok (.if_icmp .ge 89, 3) := by decide +kernel
theorem dL_law_1143 : decode cL_law 1143 = .ok (.aload_n 1, 1) := by decide +kernel
theorem dL_law_1144 : decode cL_law 1144 = .ok (.bipush 100, 2) := by decide +kernel
theorem dL_law_1146 : decode cL_law 1146 = .ok (.iload 12, 2) := by decide +kernel
theorem dL_law_1148 : decode cL_law 1148 = .ok (.iconst 2, 1) := by decide +kernel
theorem dL_law_1149 : decode cL_law 1149 = .ok (.idiv, 1) := by decide +kernel
theorem dL_law_1150 : decode cL_law 1150 = .ok (.imul, 1) := by decide +kernel
theorem dL_law_1151 : decode cL_law 1151 = .ok (.iload 12, 2) := by decide +kernel
theorem dL_law_1153 : decode cL_law 1153 = .ok (.iadd, 1) := by decide +kernel
theorem dL_law_1154 : decode cL_law 1154 = .ok (.iconst 0, 1) := by decide +kernel
theorem dL_law_1155 : decode cL_law 1155 = .ok (.invokevirtual 182, 3) := by decide +kernel
theorem dL_law_1158 : decode cL_law 1158 = .ok (.aload_n 1, 1) := by decide +kernel
theorem dL_law_1159 : decode cL_law 1159 = .ok (.bipush 100, 2) := by decide +kernel
theorem dL_law_1161 : decode cL_law 1161 = .ok (.iload 12, 2) := by decide +kernel
theorem dL_law_1163 : decode cL_law 1163 = .ok (.iconst 2, 1) := by decide +kernel
theorem dL_law_1164 : decode cL_law 1164 = .ok (.idiv, 1) := by decide +kernel
theorem dL_law_1165 : decode cL_law 1165 = .ok (.imul, 1) := by decide +kernel
theorem dL_law_1166 : decode cL_law 1166 = .ok (.iload 12, 2) := by decide +kernel
theorem dL_law_1168 : decode cL_law 1168 = .ok (.iadd, 1) := by decide +kernel
theorem dL_law_1169 : decode cL_law 1169 = .ok (.iconst 1, 1) := by decide +kernel
theorem dL_law_1170 : decode cL_law 1170 = .ok (.invokevirtual 182, 3) := by decide +kernel
theorem dL_law_1173 : decode cL_law 1173 = .ok (.invokestatic 134, 3) := by decide +kernel
theorem dL_law_1176 : decode cL_law 1176 = .ok (.aload_n 1, 1) := by decide +kernel
theorem dL_law_1177 : decode cL_law 1177 = .ok (.bipush 100, 2) := by decide +kernel
theorem dL_law_1179 : decode cL_law 1179 = .ok (.iload 12, 2) := by decide +kernel
theorem dL_law_1181 : decode cL_law 1181 = .ok (.iconst 2, 1) := by decide +kernel
theorem dL_law_1182 : decode cL_law 1182 = .ok (.idiv, 1) := by decide +kernel
theorem dL_law_1183 : decode cL_law 1183 = .ok (.iconst 1, 1) := by decide +kernel
theorem dL_law_1184 : decode cL_law 1184 = .ok (.iadd, 1) := by decide +kernel
theorem dL_law_1185 : decode cL_law 1185 = .ok (.imul, 1) := by decide +kernel
theorem dL_law_1186 : decode cL_law 1186 = .ok (.iload 12, 2) := by decide +kernel
theorem dL_law_1188 : decode cL_law 1188 = .ok (.iadd, 1) := by decide +kernel
theorem dL_law_1189 : decode cL_law 1189 = .ok (.iconst 1, 1) := by decide +kernel
theorem dL_law_1190 : decode cL_law 1190 = .ok (.iadd, 1) := by decide +kernel
theorem dL_law_1191 : decode cL_law 1191 = .ok (.iconst 0, 1) := by decide +kernel
theorem dL_law_1192 : decode cL_law 1192 = .ok (.invokevirtual 182, 3) := by decide +kernel
theorem dL_law_1195 : decode cL_law 1195 = .ok (.aload_n 1, 1) := by decide +kernel
theorem dL_law_1196 : decode cL_law 1196 = .ok (.bipush 100, 2) := by decide +kernel
theorem dL_law_1198 : decode cL_law 1198 = .ok (.iload 12, 2) := by decide +kernel
theorem dL_law_1200 : decode cL_law 1200 = .ok (.iconst 2, 1) := by decide +kernel
theorem dL_law_1201 : decode cL_law 1201 = .ok (.idiv, 1) := by decide +kernel
theorem dL_law_1202 : decode cL_law 1202 = .ok (.iconst 1, 1) := by decide +kernel
theorem dL_law_1203 : decode cL_law 1203 = .ok (.iadd, 1) := by decide +kernel
theorem dL_law_1204 : decode cL_law 1204 = .ok (.imul, 1) := by decide +kernel
theorem dL_law_1205 : decode cL_law 1205 = .ok (.iload 12, 2) := by decide +kernel
theorem dL_law_1207 : decode cL_law 1207 = .ok (.iadd, 1) := by decide +kernel
theorem dL_law_1208 : decode cL_law 1208 = .ok (.iconst 1, 1) := by decide +kernel
theorem dL_law_1209 : decode cL_law 1209 = .ok (.iadd, 1) := by decide +kernel
theorem dL_law_1210 : decode cL_law 1210 = .ok (.iconst 1, 1) := by decide +kernel
theorem dL_law_1211 : decode cL_law 1211 = .ok (.invokevirtual 182, 3) := by decide +kernel
theorem dL_law_1214 : decode cL_law 1214 = .ok (.invokestatic 134, 3) := by decide +kernel
theorem dL_law_1217 : decode cL_law 1217 = .ok (.dcmp .l, 1) := by decide +kernel
theorem dL_law_1218 : decode cL_law 1218 = .ok (.ifCond .lt 5, 3) := by decide +kernel
theorem dL_law_1221 : decode cL_law 1221 = .ok (.iconst 0, 1) := by decide +kernel
theorem dL_law_1222 : decode cL_law 1222 = .ok (.ireturn, 1) := by decide +kernel
theorem dL_law_1223 : decode cL_law 1223 = .ok (.iinc 12 1, 3) := by decide +kernel
theorem dL_law_1226 : decode cL_law 1226 = .ok (.goto (-90), 3) := by decide +kernel
theorem dL_law_1229 : decode cL_law 1229 = .ok (.aload_n 1, 1) := by decide +kernel
theorem dL_law_1230 : decode cL_law 1230 = .ok (.iconst 0, 1) := by decide +kernel
theorem dL_law_1231 : decode cL_law 1231 = .ok (.bipush 11, 2) := by decide +kernel
theorem dL_law_1233 : decode cL_law 1233 = .ok (.invokevirtual 171, 3) := by decide +kernel
theorem dL_law_1236 : decode cL_law 1236 = .ok (.aload_n 1, 1) := by decide +kernel
theorem dL_law_1237 : decode cL_law 1237 = .ok (.iconst 1, 1) := by decide +kernel
theorem dL_law_1238 : decode cL_law 1238 = .ok (.bipush 11, 2) := by decide +kernel
theorem dL_law_1240 : decode cL_law 1240 = .ok (.invokevirtual 171, 3) := by decide +kernel
theorem dL_law_1243 : decode cL_law 1243 = .ok (.iadd, 1) := by decide +kernel
theorem dL_law_1244 : decode cL_law 1244 = .ok (.aload_n 1, 1) := by decide +kernel
theorem dL_law_1245 : decode cL_law 1245 = .ok (.iconst 2, 1) := by decide +kernel
theorem dL_law_1246 : decode cL_law 1246 = .ok (.bipush 11, 2) := by decide +kernel
theorem dL_law_1248 : decode cL_law 1248 = .ok (.invokevirtual 171, 3) := by decide +kernel
theorem dL_law_1251 : decode cL_law 1251 = .ok (.iadd, 1) := by decide +kernel
theorem dL_law_1252 : decode cL_law 1252 = .ok (.istore 12, 2) := by decide +kernel
theorem dL_law_1254 : decode cL_law 1254 = .ok (.aload_n 1, 1) := by decide +kernel
theorem dL_law_1255 : decode cL_law 1255 = .ok (.iconst (-1), 1) := by decide +kernel
theorem dL_law_1256 : decode cL_law 1256 = .ok (.invokevirtual 185, 3) := by decide +kernel
theorem dL_law_1259 : decode cL_law 1259 = .ok (.istore 13, 2) := by decide +kernel
theorem dL_law_1261 : decode cL_law 1261 = .ok (.iload 13, 2) := by decide +kernel
theorem dL_law_1263 : decode cL_law 1263 = .ok (.bipush (-2), 2) := by decide +kernel
theorem dL_law_1265 : decode cL_law 1265 = .ok (.if_icmp .ne 7, 3) := by decide +kernel
theorem dL_law_1268 : decode cL_law 1268 = .ok (.iconst 1, 1) := by decide +kernel
theorem dL_law_1269 : decode cL_law 1269 = .ok (.goto 4, 3) := by decide +kernel
theorem dL_law_1272 : decode cL_law 1272 = .ok (.iconst 0, 1) := by decide +kernel
theorem dL_law_1273 : decode cL_law 1273 = .ok (.iload 12, 2) := by decide +kernel
theorem dL_law_1275 : decode cL_law 1275 = .ok (.bipush 12, 2) := by decide +kernel
theorem dL_law_1277 : decode cL_law 1277 = .ok (.if_icmp .ne 7, 3) := by decide +kernel
theorem dL_law_1280 : decode cL_law 1280 = .ok (.iconst 1, 1) := by decide +kernel
theorem dL_law_1281 : decode cL_law 1281 = .ok (.goto 4, 3) := by decide +kernel
theorem dL_law_1284 : decode cL_law 1284 = .ok (.iconst 0, 1) := by decide +kernel
theorem dL_law_1285 : decode cL_law 1285 = .ok (.if_icmp .eq 5, 3) := by decide +kernel
theorem dL_law_1288 : decode cL_law 1288 = .ok (.iconst 0, 1) := by decide +kernel
theorem dL_law_1289 : decode cL_law 1289 = .ok (.ireturn, 1) := by decide +kernel
theorem dL_law_1290 : decode cL_law 1290 = .ok (.iload 13, 2) := by decide +kernel
theorem dL_law_1292 : decode cL_law 1292 = .ok (.bipush (-2), 2) := by decide +kernel
theorem dL_law_1294 : decode cL_law 1294 = .ok (.if_icmp .eq 90, 3) := by decide +kernel
theorem dL_law_1297 : decode cL_law 1297 = .ok (.aload_n 1, 1) := by decide +kernel
theorem dL_law_1298 : decode cL_law 1298 = .ok (.iconst 0, 1) := by decide +kernel
theorem dL_law_1299 : decode cL_law 1299 = .ok (.invokevirtual 185, 3) := by decide +kernel
theorem dL_law_1302 : decode cL_law 1302 = .ok (.aload_n 1, 1) := by decide +kernel
theorem dL_law_1303 : decode cL_law 1303 = .ok (.iconst 0, 1) := by decide +kernel
theorem dL_law_1304 : decode cL_law 1304 = .ok (.bipush 11, 2) := by decide +kernel
theorem dL_law_1306 : decode cL_law 1306 = .ok (.invokevirtual 171, 3) := by decide +kernel
theorem dL_law_1309 : decode cL_law 1309 = .ok (.imul, 1) := by decide +kernel
theorem dL_law_1310 : decode cL_law 1310 = .ok (.aload_n 1, 1) := by decide +kernel
theorem dL_law_1311 : decode cL_law 1311 = .ok (.iconst 1, 1) := by decide +kernel
theorem dL_law_1312 : decode cL_law 1312 = .ok (.invokevirtual 185, 3) := by decide +kernel
theorem dL_law_1315 : decode cL_law 1315 = .ok (.aload_n 1, 1) := by decide +kernel
theorem dL_law_1316 : decode cL_law 1316 = .ok (.iconst 1, 1) := by decide +kernel
theorem dL_law_1317 : decode cL_law 1317 = .ok (.bipush 11, 2) := by decide +kernel
theorem dL_law_1319 : decode cL_law 1319 = .ok (.invokevirtual 171, 3) := by decide +kernel
theorem dL_law_1322 : decode cL_law 1322 = .ok (.imul, 1) := by decide +kernel
theorem dL_law_1323 : decode cL_law 1323 = .ok (.iadd, 1) := by decide +kernel
theorem dL_law_1324 : decode cL_law 1324 = .ok (.aload_n 1, 1) := by decide +kernel
theorem dL_law_1325 : decode cL_law 1325 = .ok (.iconst 2, 1) := by decide +kernel
theorem dL_law_1326 : decode cL_law 1326 = .ok (.invokevirtual 185, 3) := by decide +kernel
theorem dL_law_1329 : decode cL_law 1329 = .ok (.aload_n 1, 1) := by decide +kernel
theorem dL_law_1330 : decode cL_law 1330 = .ok (.iconst 2, 1) := by decide +kernel
theorem dL_law_1331 : decode cL_law 1331 = .ok (.bipush 11, 2) := by decide +kernel
theorem dL_law_1333 : decode cL_law 1333 = .ok (.invokevirtual 171, 3) := by decide +kernel
theorem dL_law_1336 : decode cL_law 1336 = .ok (.imul, 1) := by decide +kernel
theorem dL_law_1337 : decode cL_law 1337 = .ok (.iadd, 1) := by decide +kernel
theorem dL_law_1338 : decode cL_law 1338 = .ok (.istore 14, 2) := by decide +kernel
theorem dL_law_1340 : decode cL_law 1340 = .ok (.aload_n 1, 1) := by decide +kernel
theorem dL_law_1341 : decode cL_law 1341 = .ok (.iconst 0, 1) := by decide +kernel
theorem dL_law_1342 : decode cL_law 1342 = .ok (.invokevirtual 185, 3) := by decide +kernel
theorem dL_law_1345 : decode cL_law 1345 = .ok (.aload_n 1, 1) := by decide +kernel
theorem dL_law_1346 : decode cL_law 1346 = .ok (.iconst 1, 1) := by decide +kernel
theorem dL_law_1347 : decode cL_law 1347 = .ok (.invokevirtual 185, 3) := by decide +kernel
theorem dL_law_1350 : decode cL_law 1350 = .ok (.aload_n 1, 1) := by decide +kernel
theorem dL_law_1351 : decode cL_law 1351 = .ok (.iconst 2, 1) := by decide +kernel
theorem dL_law_1352 : decode cL_law 1352 = .ok (.invokevirtual 185, 3) := by decide +kernel
theorem dL_law_1355 : decode cL_law 1355 = .ok (.invokestatic 72, 3) := by decide +kernel
theorem dL_law_1358 : decode cL_law 1358 = .ok (.invokestatic 72, 3) := by decide +kernel
theorem dL_law_1361 : decode cL_law 1361 = .ok (.bipush 12, 2) := by decide +kernel
theorem dL_law_1363 : decode cL_law 1363 = .ok (.imul, 1) := by decide +kernel
theorem dL_law_1364 : decode cL_law 1364 = .ok (.iload 14, 2) := by decide +kernel
theorem dL_law_1366 : decode cL_law 1366 = .ok (.isub, 1) := by decide +kernel
theorem dL_law_1367 : decode cL_law 1367 = .ok (.istore 15, 2) := by decide +kernel
theorem dL_law_1369 : decode cL_law 1369 = .ok (.iload 13, 2) := by decide +kernel
theorem dL_law_1371 : decode cL_law 1371 = .ok (.iload 15, 2) := by decide +kernel
theorem dL_law_1373 : decode cL_law 1373 = .ok (.if_icmp .ne 9, 3) := by decide +kernel
theorem dL_law_1376 : decode cL_law 1376 = .ok (.iload 13, 2) := by decide +kernel
theorem dL_law_1378 : decode cL_law 1378 = .ok (.iconst 1, 1) := by decide +kernel
theorem dL_law_1379 : decode cL_law 1379 = .ok (.if_icmp .ge 5, 3) := by decide +kernel
theorem dL_law_1382 : decode cL_law 1382 = .ok (.iconst 0, 1) := by decide +kernel
theorem dL_law_1383 : decode cL_law 1383 = .ok (.ireturn, 1) := by decide +kernel
theorem dL_law_1384 : decode cL_law 1384 = .ok (.iload_n 3, 1) := by decide +kernel
theorem dL_law_1385 : decode cL_law 1385 = .ok (.ifCond .eq 19, 3) := by decide +kernel
theorem dL_law_1388 : decode cL_law 1388 = .ok (.aload_n 1, 1) := by decide +kernel
theorem dL_law_1389 : decode cL_law 1389 = .ok (.iconst 1, 1) := by decide +kernel
theorem dL_law_1390 : decode cL_law 1390 = .ok (.invokevirtual 188, 3) := by decide +kernel
theorem dL_law_1393 : decode cL_law 1393 = .ok (.bipush (-5), 2) := by decide +kernel
theorem dL_law_1395 : decode cL_law 1395 = .ok (.if_icmp .ne 7, 3) := by decide +kernel
theorem dL_law_1398 : decode cL_law 1398 = .ok (.iconst 1, 1) := by decide +kernel
theorem dL_law_1399 : decode cL_law 1399 = .ok (.goto 4, 3) := by decide +kernel
theorem dL_law_1402 : decode cL_law 1402 = .ok (.iconst 0, 1) := by decide +kernel
theorem dL_law_1403 : decode cL_law 1403 = .ok (.ireturn, 1) := by decide +kernel
theorem dL_law_1404 : decode cL_law 1404 = .ok (.aload_n 2, 1) := by decide +kernel
theorem dL_law_1405 : decode cL_law 1405 = .ok (.invokestatic 127, 3) := by decide +kernel
theorem dL_law_1408 : decode cL_law 1408 = .ok (.istore 14, 2) := by decide +kernel
theorem dL_law_1410 : decode cL_law 1410 = .ok (.iconst 0, 1) := by decide +kernel
theorem dL_law_1411 : decode cL_law 1411 = .ok (.istore 15, 2) := by decide +kernel
theorem dL_law_1413 : decode cL_law 1413 = .ok (.iload 15, 2) := by decide +kernel
theorem dL_law_1415 : decode cL_law 1415 = .ok (.iconst 5, 1) := by decide +kernel
theorem dL_law_1416 : decode cL_law 1416 = .ok (.if_icmp .ge 70, 3) := by decide +kernel
theorem dL_law_1419 : decode cL_law 1419 = .ok (.iload 14, 2) := by decide +kernel
theorem dL_law_1421 : decode cL_law 1421 = .ok (.ifCond .le 65, 3) := by decide +kernel
theorem dL_law_1424 : decode cL_law 1424 = .ok (.aload_n 1, 1) := by decide +kernel
theorem dL_law_1425 : decode cL_law 1425 = .ok (.aload_n 0, 1) := by decide +kernel
theorem dL_law_1426 : decode cL_law 1426 = .ok (.bipush 40, 2) := by decide +kernel
theorem dL_law_1428 : decode cL_law 1428 = .ok (.iload 15, 2) := by decide +kernel
theorem dL_law_1430 : decode cL_law 1430 = .ok (.iadd, 1) := by decide +kernel
theorem dL_law_1431 : decode cL_law 1431 = .ok (.invokestatic 43, 3) := by decide +kernel
theorem dL_law_1434 : decode cL_law 1434 = .ok (.invokevirtual 188, 3) := by decide +kernel
theorem dL_law_1437 : decode cL_law 1437 = .ok (.istore 16, 2) := by decide +kernel
theorem dL_law_1439 : decode cL_law 1439 = .ok (.iload 16, 2) := by decide +kernel
theorem dL_law_1441 : decode cL_law 1441 = .ok (.ifCond .lt 37, 3) := by decide +kernel
theorem dL_law_1444 : decode cL_law 1444 = .ok (.iload 16, 2) := by decide +kernel
theorem dL_law_1446 : decode cL_law 1446 = .ok (.bipush 55, 2) := by decide +kernel
theorem dL_law_1448 : decode cL_law 1448 = .ok (.if_icmp .gt 30, 3) := by decide +kernel
theorem dL_law_1451 : decode cL_law 1451 = .ok (.aload_n 1, 1) := by decide +kernel
theorem dL_law_1452 : decode cL_law 1452 = .ok (.iconst 0, 1) := by decide +kernel
theorem dL_law_1453 : decode cL_law 1453 = .ok (.bipush 15, 2) := by decide +kernel
theorem dL_law_1455 : decode cL_law 1455 = .ok (.invokevirtual 171, 3) := by decide +kernel
theorem dL_law_1458 : decode cL_law 1458 = .ok (.iinc 14 (-1), 3) := by decide +kernel
theorem dL_law_1461 : decode cL_law 1461 = .ok (.iload 14, 2) := by decide +kernel
theorem dL_law_1463 : decode cL_law 1463 = .ok (.if_icmp .ne 15, 3) := by decide +kernel
theorem dL_law_1466 : decode cL_law 1466 = .ok (.aload_n 1, 1) := by decide +kernel
theorem dL_law_1467 : decode cL_law 1467 = .ok (.iconst 1, 1) := by decide +kernel
theorem dL_law_1468 : decode cL_law 1468 = .ok (.invokevirtual 13, 3) := by decide +kernel
theorem dL_law_1471 : decode cL_law 1471 = .ok (.iload 15, 2) := by decide +kernel
theorem dL_law_1473 : decode cL_law 1473 = .ok (.iconst 1, 1) := by decide +kernel
theorem dL_law_1474 : decode cL_law 1474 = .ok (.iadd, 1) := by decide +kernel
theorem dL_law_1475 : decode cL_law 1475 = .ok (.if_icmp .eq 5, 3) := by decide +kernel
theorem dL_law_1478 : decode cL_law 1478 = .ok (.iconst 0, 1) := by decide +kernel
theorem dL_law_1479 : decode cL_law 1479 = .ok (.ireturn, 1) := by decide +kernel
theorem dL_law_1480 : decode cL_law 1480 = .ok (.iinc 15 1, 3) := by decide +kernel
theorem dL_law_1483 : decode cL_law 1483 = .ok (.goto (-70), 3) := by decide +kernel
theorem dL_law_1486 : decode cL_law 1486 = .ok (.aload_n 1, 1) := by decide +kernel
theorem dL_law_1487 : decode cL_law 1487 = .ok (.invokevirtual 191, 3) := by decide +kernel
theorem dL_law_1490 : decode cL_law 1490 = .ok (.ifCond .le 35, 3) := by decide +kernel
theorem dL_law_1493 : decode cL_law 1493 = .ok (.aload_n 1, 1) := by decide +kernel
theorem dL_law_1494 : decode cL_law 1494 = .ok (.iconst 0, 1) := by decide +kernel
theorem dL_law_1495 : decode cL_law 1495 = .ok (.bipush 15, 2) := by decide +kernel
theorem dL_law_1497 : decode cL_law 1497 = .ok (.invokevirtual 171, 3) := by decide +kernel
theorem dL_law_1500 : decode cL_law 1500 = .ok (.aload_n 2, 1) := by decide +kernel
theorem dL_law_1501 : decode cL_law 1501 = .ok (.invokestatic 127, 3) := by decide +kernel
theorem dL_law_1504 : decode cL_law 1504 = .ok (.if_icmp .ne 21, 3) := by decide +kernel
theorem dL_law_1507 : decode cL_law 1507 = .ok (.aload_n 1, 1) := by decide +kernel
theorem dL_law_1508 : decode cL_law 1508 = .ok (.bipush 9, 2) := by decide +kernel
theorem dL_law_1510 : decode cL_law 1510 = .ok (.bipush 20, 2) := by decide +kernel
theorem dL_law_1512 : decode cL_law 1512 = .ok (.iconst 0, 1) := by decide +kernel
theorem dL_law_1513 : decode cL_law 1513 = .ok (.invokevirtual 194, 3) := by decide +kernel
theorem dL_law_1516 : decode cL_law 1516 = .ok (.bipush 20, 2) := by decide +kernel
theorem dL_law_1518 : decode cL_law 1518 = .ok (.if_icmp .gt 7, 3) := by decide +kernel
theorem dL_law_1521 : decode cL_law 1521 = .ok (.iconst 1, 1) := by decide +kernel
theorem dL_law_1522 : decode cL_law 1522 = .ok (.goto 4, 3) := by decide +kernel
theorem dL_law_1525 : decode cL_law 1525 = .ok (.iconst 0, 1) := by decide +kernel
theorem dL_law_1526 : decode cL_law 1526 = .ok (.ireturn, 1) := by decide +kernel
theorem dJ9_abs_294c1_0 : decode cJ9_abs_294c1 0 = .ok (.dload_n 0, 1) := by decide +kernel
theorem dJ9_abs_294c1_1 : decode cJ9_abs_294c1 1 = .ok (.invokestatic 79, 3) := by decide +kernel
theorem dJ9_abs_294c1_4 : decode cJ9_abs_294c1 4 = .ok (.ldc2_w 135, 3) := by decide +kernel
theorem dJ9_abs_294c1_7 : decode cJ9_abs_294c1 7 = .ok (.land, 1) := by decide +kernel
theorem dJ9_abs_294c1_8 : decode cJ9_abs_294c1 8 = .ok (.invokestatic 166, 3) := by decide +kernel
theorem dJ9_abs_294c1_11 : decode cJ9_abs_294c1 11 = .ok (.dreturn, 1) := by decide +kernel
