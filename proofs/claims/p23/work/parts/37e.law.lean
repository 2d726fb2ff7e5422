theorem dL_law_405 : decode cL_law 405 = .ok (.aload_n 1, 1) := by decide +kernel
theorem dL_law_406 : decode cL_law 406 = .ok (.bipush 6, 2) := by decide +kernel
theorem dL_law_408 : decode cL_law 408 = .ok (.invokevirtual 124, 3) := by decide +kernel
theorem dL_law_411 : decode cL_law 411 = .ok (.istore 13, 2) := by decide +kernel
theorem dL_law_413 : decode cL_law 413 = .ok (.aload_n 1, 1) := by decide +kernel
theorem dL_law_414 : decode cL_law 414 = .ok (.iconst 1, 1) := by decide +kernel
theorem dL_law_415 : decode cL_law 415 = .ok (.invokevirtual 145, 3) := by decide +kernel
theorem dL_law_418 : decode cL_law 418 = .ok (.istore 14, 2) := by decide +kernel
theorem dL_law_420 : decode cL_law 420 = .ok (.aload_n 2, 1) := by decide +kernel
theorem dL_law_421 : decode cL_law 421 = .ok (.invokevirtual 148, 3) := by decide +kernel
theorem dL_law_424 : decode cL_law 424 = .ok (.pop, 1) := by decide +kernel
theorem dL_law_425 : decode cL_law 425 = .ok (.iconst 4, 1) := by decide +kernel
theorem dL_law_426 : decode cL_law 426 = .ok (.istore 15, 2) := by decide +kernel
theorem dL_law_428 : decode cL_law 428 = .ok (.iload 15, 2) := by decide +kernel
theorem dL_law_430 : decode cL_law 430 = .ok (.bipush 8, 2) := by decide +kernel
theorem dL_law_432 : decode cL_law 432 = .ok (.if_icmp .ge 25, 3) := by decide +kernel
theorem dL_law_435 : decode cL_law 435 = .ok (.aload_n 1, 1) := by decide +kernel
theorem dL_law_436 : decode cL_law 436 = .ok (.iload 15, 2) := by decide +kernel
theorem dL_law_438 : decode cL_law 438 = .ok (.invokevirtual 124, 3) := by decide +kernel
theorem dL_law_441 : decode cL_law 441 = .ok (.aload 10, 2) := by decide +kernel
theorem dL_law_443 : decode cL_law 443 = .ok (.iload 15, 2) := by decide +kernel
theorem dL_law_445 : decode cL_law 445 = .ok (.iaload, 1) := by decide +kernel
theorem dL_law_446 : decode cL_law 446 = .ok (.if_icmp .eq 5, 3) := by decide +kernel
theorem dL_law_449 : decode cL_law 449 = .ok (.iconst 0, 1) := by decide +kernel
theorem dL_law_450 : decode cL_law 450 = .ok (.ireturn, 1) := by decide +kernel
theorem dL_law_451 : decode cL_law 451 = .ok (.iinc 15 1, 3) := by decide +kernel
theorem dL_law_454 : decode cL_law 454 = .ok (.goto (-26), 3) := by decide +kernel
theorem dL_law_457 : decode cL_law 457 = .ok (.iconst 0, 1) := by decide +kernel
theorem dL_law_458 : decode cL_law 458 = .ok (.istore 15, 2) := by decide +kernel
theorem dL_law_460 : decode cL_law 460 = .ok (.iload 15, 2) := by decide +kernel
theorem dL_law_462 : decode cL_law 462 = .ok (.iconst 5, 1) := by decide +kernel
theorem dL_law_463 : decode cL_law 463 = .ok (.if_icmp .ge 28, 3) := by decide +kernel
theorem dL_law_466 : decode cL_law 466 = .ok (.aload_n 1, 1) := by decide +kernel
theorem dL_law_467 : decode cL_law 467 = .ok (.bipush 8, 2) := by decide +kernel
theorem dL_law_469 : decode cL_law 469 = .ok (.iload 15, 2) := by decide +kernel
theorem dL_law_471 : decode cL_law 471 = .ok (.iadd, 1) := by decide +kernel
theorem dL_law_472 : decode cL_law 472 = .ok (.invokevirtual 124, 3) := by decide +kernel
theorem dL_law_475 : decode cL_law 475 = .ok (.aload 11, 2) := by decide +kernel
theorem dL_law_477 : decode cL_law 477 = .ok (.iload 15, 2) := by decide +kernel
theorem dL_law_479 : decode cL_law 479 = .ok (.iaload, 1) := by decide +kernel
theorem dL_law_480 : decode cL_law 480 = .ok (.if_icmp .eq 5, 3) := by decide +kernel
theorem dL_law_483 : decode cL_law 483 = .ok (.iconst 0, 1) := by decide +kernel
theorem dL_law_484 : decode cL_law 484 = .ok (.ireturn, 1) := by decide +kernel
theorem dL_law_485 : decode cL_law 485 = .ok (.iinc 15 1, 3) := by decide +kernel
theorem dL_law_488 : decode cL_law 488 = .ok (.goto (-28), 3) := by decide +kernel
theorem dL_law_491 : decode cL_law 491 = .ok (.aload_n 1, 1) := by decide +kernel
theorem dL_law_492 : decode cL_law 492 = .ok (.iconst 0, 1) := by decide +kernel
theorem dL_law_493 : decode cL_law 493 = .ok (.invokevirtual 124, 3) := by decide +kernel
theorem dL_law_496 : decode cL_law 496 = .ok (.iload 8, 2) := by decide +kernel
theorem dL_law_498 : decode cL_law 498 = .ok (.iconst 1, 1) := by decide +kernel
theorem dL_law_499 : decode cL_law 499 = .ok (.iadd, 1) := by decide +kernel
theorem dL_law_500 : decode cL_law 500 = .ok (.if_icmp .ne 26, 3) := by decide +kernel
theorem dL_law_503 : decode cL_law 503 = .ok (.iload 14, 2) := by decide +kernel
theorem dL_law_505 : decode cL_law 505 = .ok (.iload 12, 2) := by decide +kernel
theorem dL_law_507 : decode cL_law 507 = .ok (.aload_n 1, 1) := by decide +kernel
theorem dL_law_508 : decode cL_law 508 = .ok (.iconst 5, 1) := by decide +kernel
theorem dL_law_509 : decode cL_law 509 = .ok (.invokevirtual 124, 3) := by decide +kernel
theorem dL_law_512 : decode cL_law 512 = .ok (.isub, 1) := by decide +kernel
theorem dL_law_513 : decode cL_law 513 = .ok (.iload 13, 2) := by decide +kernel
theorem dL_law_515 : decode cL_law 515 = .ok (.iadd, 1) := by decide +kernel
theorem dL_law_516 : decode cL_law 516 = .ok (.aload_n 1, 1) := by decide +kernel
theorem dL_law_517 : decode cL_law 517 = .ok (.bipush 6, 2) := by decide +kernel
theorem dL_law_519 : decode cL_law 519 = .ok (.invokevirtual 124, 3) := by decide +kernel
theorem dL_law_522 : decode cL_law 522 = .ok (.isub, 1) := by decide +kernel
theorem dL_law_523 : decode cL_law 523 = .ok (.if_icmp .eq 5, 3) := by decide +kernel
theorem dL_law_526 : decode cL_law 526 = .ok (.iconst 0, 1) := by decide +kernel
theorem dL_law_527 : decode cL_law 527 = .ok (.ireturn, 1) := by decide +kernel
theorem dL_law_528 : decode cL_law 528 = .ok (.iconst 0, 1) := by decide +kernel
theorem dL_law_529 : decode cL_law 529 = .ok (.istore 15, 2) := by decide +kernel
theorem dL_law_531 : decode cL_law 531 = .ok (.iconst 0, 1) := by decide +kernel
theorem dL_law_532 : decode cL_law 532 = .ok (.istore 16, 2) := by decide +kernel
theorem dL_law_534 : decode cL_law 534 = .ok (.iconst 0, 1) := by decide +kernel
theorem dL_law_535 : decode cL_law 535 = .ok (.istore 17, 2) := by decide +kernel
theorem dL_law_537 : decode cL_law 537 = .ok (.iload 17, 2) := by decide +kernel
theorem dL_law_539 : decode cL_law 539 = .ok (.iload 5, 2) := by decide +kernel
theorem dL_law_541 : decode cL_law 541 = .ok (.if_icmp .ge 497, 3) := by decide +kernel
theorem dL_law_544 : decode cL_law 544 = .ok (.iconst 0, 1) := by decide +kernel
theorem dL_law_545 : decode cL_law 545 = .ok (.istore 18, 2) := by decide +kernel
theorem dL_law_547 : decode cL_law 547 = .ok (.iload 18, 2) := by decide +kernel
theorem dL_law_549 : decode cL_law 549 = .ok (.bipush 6, 2) := by decide +kernel
theorem dL_law_551 : decode cL_law 551 = .ok (.if_icmp .ge 179, 3) := by decide +kernel
theorem dL_law_554 : decode cL_law 554 = .ok (.aload_n 1, 1) := by decide +kernel
theorem dL_law_555 : decode cL_law 555 = .ok (.iload 17, 2) := by decide +kernel
theorem dL_law_557 : decode cL_law 557 = .ok (.iload 18, 2) := by decide +kernel
theorem dL_law_559 : decode cL_law 559 = .ok (.iconst 2, 1) := by decide +kernel
theorem dL_law_560 : decode cL_law 560 = .ok (.invokevirtual 133, 3) := by decide +kernel
theorem dL_law_563 : decode cL_law 563 = .ok (.istore 19, 2) := by decide +kernel
theorem dL_law_565 : decode cL_law 565 = .ok (.aload_n 1, 1) := by decide +kernel
theorem dL_law_566 : decode cL_law 566 = .ok (.iload 17, 2) := by decide +kernel
theorem dL_law_568 : decode cL_law 568 = .ok (.iload 18, 2) := by decide +kernel
theorem dL_law_570 : decode cL_law 570 = .ok (.iconst 0, 1) := by decide +kernel
theorem dL_law_571 : decode cL_law 571 = .ok (.invokevirtual 133, 3) := by decide +kernel
theorem dL_law_574 : decode cL_law 574 = .ok (.aload 7, 2) := by decide +kernel
theorem dL_law_576 : decode cL_law 576 = .ok (.iload 17, 2) := by decide +kernel
theorem dL_law_578 : decode cL_law 578 = .ok (.aaload, 1) := by decide +kernel
theorem dL_law_579 : decode cL_law 579 = .ok (.iload 18, 2) := by decide +kernel
theorem dL_law_581 : decode cL_law 581 = .ok (.aaload, 1) := by decide +kernel
theorem dL_law_582 : decode cL_law 582 = .ok (.iconst 0, 1) := by decide +kernel
theorem dL_law_583 : decode cL_law 583 = .ok (.iaload, 1) := by decide +kernel
theorem dL_law_584 : decode cL_law 584 = .ok (.if_icmp .ne 124, 3) := by decide +kernel
theorem dL_law_587 : decode cL_law 587 = .ok (.aload_n 1, 1) := by decide +kernel
theorem dL_law_588 : decode cL_law 588 = .ok (.iload 17, 2) := by decide +kernel
theorem dL_law_590 : decode cL_law 590 = .ok (.iload 18, 2) := by decide +kernel
theorem dL_law_592 : decode cL_law 592 = .ok (.iconst 1, 1) := by decide +kernel
theorem dL_law_593 : decode cL_law 593 = .ok (.invokevirtual 133, 3) := by decide +kernel
theorem dL_law_596 : decode cL_law 596 = .ok (.aload 7, 2) := by decide +kernel
theorem dL_law_598 : decode cL_law 598 = .ok (.iload 17, 2) := by decide +kernel
theorem dL_law_600 : decode cL_law 600 = .ok (.aaload, 1) := by decide +kernel
theorem dL_law_601 : decode cL_law 601 = .ok (.iload 18, 2) := by decide +kernel
theorem dL_law_603 : decode cL_law 603 = .ok (.aaload, 1) := by decide +kernel
theorem dL_law_604 : decode cL_law 604 = .ok (.iconst 1, 1) := by decide +kernel
theorem dL_law_605 : decode cL_law 605 = .ok (.iaload, 1) := by decide +kernel
theorem dL_law_606 : decode cL_law 606 = .ok (.if_icmp .ne 102, 3) := by decide +kernel
theorem dL_law_609 : decode cL_law 609 = .ok (.aload 7, 2) := by decide +kernel
theorem dL_law_611 : decode cL_law 611 = .ok (.iload 17, 2) := by decide +kernel
theorem dL_law_613 : decode cL_law 613 = .ok (.aaload, 1) := by decide +kernel
theorem dL_law_614 : decode cL_law 614 = .ok (.iload 18, 2) := by decide +kernel
theorem dL_law_616 : decode cL_law 616 = .ok (.aaload, 1) := by decide +kernel
theorem dL_law_617 : decode cL_law 617 = .ok (.iconst 1, 1) := by decide +kernel
theorem dL_law_618 : decode cL_law 618 = .ok (.iaload, 1) := by decide +kernel
theorem dL_law_619 : decode cL_law 619 = .ok (.ifCond .lt 89, 3) := by decide +kernel
theorem dL_law_622 : decode cL_law 622 = .ok (.aload 7, 2) := by decide +kernel
theorem dL_law_624 : decode cL_law 624 = .ok (.iload 17, 2) := by decide +kernel
theorem dL_law_626 : decode cL_law 626 = .ok (.aaload, 1) := by decide +kernel
theorem dL_law_627 : decode cL_law 627 = .ok (.iload 18, 2) := by decide +kernel
theorem dL_law_629 : decode cL_law 629 = .ok (.aaload, 1) := by decide +kernel
theorem dL_law_630 : decode cL_law 630 = .ok (.iconst 1, 1) := by decide +kernel
theorem dL_law_631 : decode cL_law 631 = .ok (.iaload, 1) := by decide +kernel
theorem dL_law_632 : decode cL_law 632 = .ok (.bipush 100, 2) := by decide +kernel
theorem dL_law_634 : decode cL_law 634 = .ok (.if_icmp .gt 74, 3) := by decide +kernel
theorem dL_law_637 : decode cL_law 637 = .ok (.iload 19, 2) := by decide +kernel
theorem dL_law_639 : decode cL_law 639 = .ok (.iconst 0, 1) := by decide +kernel
theorem dL_law_640 : decode cL_law 640 = .ok (.aload 7, 2) := by decide +kernel
theorem dL_law_642 : decode cL_law 642 = .ok (.iload 17, 2) := by decide +kernel
theorem dL_law_644 : decode cL_law 644 = .ok (.aaload, 1) := by decide +kernel
theorem dL_law_645 : decode cL_law 645 = .ok (.iload 18, 2) := by decide +kernel
theorem dL_law_647 : decode cL_law 647 = .ok (.aaload, 1) := by decide +kernel
theorem dL_law_648 : decode cL_law 648 = .ok (.iconst 2, 1) := by decide +kernel
theorem dL_law_649 : decode cL_law 649 = .ok (.iaload, 1) := by decide +kernel
theorem dL_law_650 : decode cL_law 650 = .ok (.iload 8, 2) := by decide +kernel
theorem dL_law_652 : decode cL_law 652 = .ok (.iconst 3, 1) := by decide +kernel
theorem dL_law_653 : decode cL_law 653 = .ok (.irem, 1) := by decide +kernel
theorem dL_law_654 : decode cL_law 654 = .ok (.ifCond .ne 7, 3) := by decide +kernel
theorem dL_law_657 : decode cL_law 657 = .ok (.iconst 1, 1) := by decide +kernel
theorem dL_law_658 : decode cL_law 658 = .ok (.goto 4, 3) := by decide +kernel
theorem dL_law_661 : decode cL_law 661 = .ok (.iconst 0, 1) := by decide +kernel
theorem dL_law_662 : decode cL_law 662 = .ok (.isub, 1) := by decide +kernel
theorem dL_law_663 : decode cL_law 663 = .ok (.invokestatic 150, 3) := by decide +kernel
theorem dL_law_666 : decode cL_law 666 = .ok (.if_icmp .ne 42, 3) := by decide +kernel
theorem dL_law_669 : decode cL_law 669 = .ok (.iload 19, 2) := by decide +kernel
theorem dL_law_671 : decode cL_law 671 = .ok (.bipush 20, 2) := by decide +kernel
theorem dL_law_673 : decode cL_law 673 = .ok (.if_icmp .gt 35, 3) := by decide +kernel
theorem dL_law_676 : decode cL_law 676 = .ok (.aload_n 1, 1) := by decide +kernel
theorem dL_law_677 : decode cL_law 677 = .ok (.iload 17, 2) := by decide +kernel
theorem dL_law_679 : decode cL_law 679 = .ok (.iload 18, 2) := by decide +kernel
theorem dL_law_681 : decode cL_law 681 = .ok (.iconst 3, 1) := by decide +kernel
theorem dL_law_682 : decode cL_law 682 = .ok (.invokevirtual 133, 3) := by decide +kernel
theorem dL_law_685 : decode cL_law 685 = .ok (.aload 7, 2) := by decide +kernel
theorem dL_law_687 : decode cL_law 687 = .ok (.iload 17, 2) := by decide +kernel
theorem dL_law_689 : decode cL_law 689 = .ok (.aaload, 1) := by decide +kernel
theorem dL_law_690 : decode cL_law 690 = .ok (.iload 18, 2) := by decide +kernel
theorem dL_law_692 : decode cL_law 692 = .ok (.aaload, 1) := by decide +kernel
theorem dL_law_693 : decode cL_law 693 = .ok (.iconst 1, 1) := by decide +kernel
theorem dL_law_694 : decode cL_law 694 = .ok (.iaload, 1) := by decide +kernel
theorem dL_law_695 : decode cL_law 695 = .ok (.bipush 100, 2) := by decide +kernel
theorem dL_law_697 : decode cL_law 697 = .ok (.if_icmp .ne 7, 3) := by decide +kernel
theorem dL_law_700 : decode cL_law 700 = .ok (.iconst 1, 1) := by decide +kernel
theorem dL_law_701 : decode cL_law 701 = .ok (.goto 4, 3) := by decide +kernel
theorem dL_law_704 : decode cL_law 704 = .ok (.iconst 0, 1) := by decide +kernel
theorem dL_law_705 : decode cL_law 705 = .ok (.if_icmp .eq 5, 3) := by decide +kernel
theorem dL_law_708 : decode cL_law 708 = .ok (.iconst 0, 1) := by decide +kernel
theorem dL_law_709 : decode cL_law 709 = .ok (.ireturn, 1) := by decide +kernel
theorem dL_law_710 : decode cL_law 710 = .ok (.iload 15, 2) := by decide +kernel
theorem dL_law_712 : decode cL_law 712 = .ok (.aload_n 1, 1) := by decide +kernel
theorem dL_law_713 : decode cL_law 713 = .ok (.iload 17, 2) := by decide +kernel
theorem dL_law_715 : decode cL_law 715 = .ok (.iload 18, 2) := by decide +kernel
theorem dL_law_717 : decode cL_law 717 = .ok (.iconst 3, 1) := by decide +kernel
theorem dL_law_718 : decode cL_law 718 = .ok (.invokevirtual 133, 3) := by decide +kernel
theorem dL_law_721 : decode cL_law 721 = .ok (.iadd, 1) := by decide +kernel
theorem dL_law_722 : decode cL_law 722 = .ok (.istore 15, 2) := by decide +kernel
theorem dL_law_724 : decode cL_law 724 = .ok (.iinc 18 1, 3) := by decide +kernel
theorem dL_law_727 : decode cL_law 727 = .ok (.goto (-180), 3) := by decide +kernel
theorem dL_law_730 : decode cL_law 730 = .ok (.iconst 0, 1) := by decide +kernel
theorem dL_law_731 : decode cL_law 731 = .ok (.istore 18, 2) := by decide +kernel
theorem dL_law_733 : decode cL_law 733 = .ok (.iload 18, 2) := by decide +kernel
theorem dL_law_735 : decode cL_law 735 = .ok (.iconst 2, 1) := by decide +kernel
theorem dL_law_736 : decode cL_law 736 = .ok (.if_icmp .ge 92, 3) := by decide +kernel
theorem dL_law_739 : decode cL_law 739 = .ok (.aload_n 1, 1) := by decide +kernel
theorem dL_law_740 : decode cL_law 740 = .ok (.iload 17, 2) := by decide +kernel
theorem dL_law_742 : decode cL_law 742 = .ok (.iload 18, 2) := by decide +kernel
theorem dL_law_744 : decode cL_law 744 = .ok (.invokevirtual 130, 3) := by decide +kernel
theorem dL_law_747 : decode cL_law 747 = .ok (.aload 6, 2) := by decide +kernel
theorem dL_law_749 : decode cL_law 749 = .ok (.iload 17, 2) := by decide +kernel
theorem dL_law_751 : decode cL_law 751 = .ok (.aaload, 1) := by decide +kernel
theorem dL_law_752 : decode cL_law 752 = .ok (.iload 18, 2) := by decide +kernel
theorem dL_law_754 : decode cL_law 754 = .ok (.iaload, 1) := by decide +kernel
theorem dL_law_755 : decode cL_law 755 = .ok (.if_icmp .ne 40, 3) := by decide +kernel
theorem dL_law_758 : decode cL_law 758 = .ok (.aload_n 1, 1) := by decide +kernel
theorem dL_law_759 : decode cL_law 759 = .ok (.iload 17, 2) := by decide +kernel
theorem dL_law_761 : decode cL_law 761 = .ok (.iconst 2, 1) := by decide +kernel
theorem dL_law_762 : decode cL_law 762 = .ok (.iload 18, 2) := by decide +kernel
theorem dL_law_764 : decode cL_law 764 = .ok (.iadd, 1) := by decide +kernel
theorem dL_law_765 : decode cL_law 765 = .ok (.invokevirtual 130, 3) := by decide +kernel
theorem dL_law_768 : decode cL_law 768 = .ok (.bipush 9, 2) := by decide +kernel
theorem dL_law_770 : decode cL_law 770 = .ok (.aload 6, 2) := by decide +kernel
theorem dL_law_772 : decode cL_law 772 = .ok (.iload 17, 2) := by decide +kernel
theorem dL_law_774 : decode cL_law 774 = .ok (.aaload, 1) := by decide +kernel
theorem dL_law_775 : decode cL_law 775 = .ok (.iconst 2, 1) := by decide +kernel
theorem dL_law_776 : decode cL_law 776 = .ok (.iload 18, 2) := by decide +kernel
theorem dL_law_778 : decode cL_law 778 = .ok (.iadd, 1) := by decide +kernel
theorem dL_law_779 : decode cL_law 779 = .ok (.iaload, 1) := by decide +kernel
theorem dL_law_780 : decode cL_law 780 = .ok (.aload 6, 2) := by decide +kernel
