theorem dL_act_337 : decode cL_act 337 = .ok (.iaload, 1) := by decide +kernel
theorem dL_act_338 : decode cL_act 338 = .ok (.invokevirtual 36, 3) := by decide +kernel
theorem dL_act_341 : decode cL_act 341 = .ok (.iload 4, 2) := by decide +kernel
theorem dL_act_343 : decode cL_act 343 = .ok (.if_icmp .ne 7, 3) := by decide +kernel
theorem dL_act_346 : decode cL_act 346 = .ok (.iconst 1, 1) := by decide +kernel
theorem dL_act_347 : decode cL_act 347 = .ok (.goto 4, 3) := by decide +kernel
theorem dL_act_350 : decode cL_act 350 = .ok (.iconst 0, 1) := by decide +kernel
theorem dL_act_351 : decode cL_act 351 = .ok (.ireturn, 1) := by decide +kernel
theorem dL_act_352 : decode cL_act 352 = .ok (.aload_n 1, 1) := by decide +kernel
theorem dL_act_353 : decode cL_act 353 = .ok (.getfield 40, 3) := by decide +kernel
theorem dL_act_356 : decode cL_act 356 = .ok (.istore 10, 2) := by decide +kernel
theorem dL_act_358 : decode cL_act 358 = .ok (.aload_n 1, 1) := by decide +kernel
theorem dL_act_359 : decode cL_act 359 = .ok (.iload_n 2, 1) := by decide +kernel
theorem dL_act_360 : decode cL_act 360 = .ok (.iconst 4, 1) := by decide +kernel
theorem dL_act_361 : decode cL_act 361 = .ok (.ishr, 1) := by decide +kernel
theorem dL_act_362 : decode cL_act 362 = .ok (.iconst 4, 1) := by decide +kernel
theorem dL_act_363 : decode cL_act 363 = .ok (.invokestatic 19, 3) := by decide +kernel
theorem dL_act_366 : decode cL_act 366 = .ok (.putfield 40, 3) := by decide +kernel
theorem dL_act_369 : decode cL_act 369 = .ok (.aload_n 0, 1) := by decide +kernel
theorem dL_act_370 : decode cL_act 370 = .ok (.aload_n 1, 1) := by decide +kernel
theorem dL_act_371 : decode cL_act 371 = .ok (.getfield 40, 3) := by decide +kernel
theorem dL_act_374 : decode cL_act 374 = .ok (.invokevirtual 44, 3) := by decide +kernel
theorem dL_act_377 : decode cL_act 377 = .ok (.iload 10, 2) := by decide +kernel
theorem dL_act_379 : decode cL_act 379 = .ok (.if_icmp .ne 7, 3) := by decide +kernel
theorem dL_act_382 : decode cL_act 382 = .ok (.iconst 1, 1) := by decide +kernel
theorem dL_act_383 : decode cL_act 383 = .ok (.goto 4, 3) := by decide +kernel
theorem dL_act_386 : decode cL_act 386 = .ok (.iconst 0, 1) := by decide +kernel
theorem dL_act_387 : decode cL_act 387 = .ok (.ireturn, 1) := by decide +kernel
theorem dL_act_388 : decode cL_act 388 = .ok (.iload_n 2, 1) := by decide +kernel
theorem dL_act_389 : decode cL_act 389 = .ok (.iconst 3, 1) := by decide +kernel
theorem dL_act_390 : decode cL_act 390 = .ok (.ishr, 1) := by decide +kernel
theorem dL_act_391 : decode cL_act 391 = .ok (.iconst 2, 1) := by decide +kernel
theorem dL_act_392 : decode cL_act 392 = .ok (.invokestatic 19, 3) := by decide +kernel
theorem dL_act_395 : decode cL_act 395 = .ok (.istore 11, 2) := by decide +kernel
theorem dL_act_397 : decode cL_act 397 = .ok (.aload 6, 2) := by decide +kernel
theorem dL_act_399 : decode cL_act 399 = .ok (.getfield 48, 3) := by decide +kernel
theorem dL_act_402 : decode cL_act 402 = .ok (.iload 11, 2) := by decide +kernel
theorem dL_act_404 : decode cL_act 404 = .ok (.iaload, 1) := by decide +kernel
theorem dL_act_405 : decode cL_act 405 = .ok (.bipush 9, 2) := by decide +kernel
theorem dL_act_407 : decode cL_act 407 = .ok (.if_icmp .ne 5, 3) := by decide +kernel
theorem dL_act_410 : decode cL_act 410 = .ok (.iconst 1, 1) := by decide +kernel
theorem dL_act_411 : decode cL_act 411 = .ok (.ireturn, 1) := by decide +kernel
theorem dL_act_412 : decode cL_act 412 = .ok (.aload 6, 2) := by decide +kernel
theorem dL_act_414 : decode cL_act 414 = .ok (.getfield 51, 3) := by decide +kernel
theorem dL_act_417 : decode cL_act 417 = .ok (.iload 11, 2) := by decide +kernel
theorem dL_act_419 : decode cL_act 419 = .ok (.aload 6, 2) := by decide +kernel
theorem dL_act_421 : decode cL_act 421 = .ok (.getfield 51, 3) := by decide +kernel
theorem dL_act_424 : decode cL_act 424 = .ok (.iload 11, 2) := by decide +kernel
theorem dL_act_426 : decode cL_act 426 = .ok (.baload, 1) := by decide +kernel
theorem dL_act_427 : decode cL_act 427 = .ok (.ifCond .ne 7, 3) := by decide +kernel
theorem dL_act_430 : decode cL_act 430 = .ok (.iconst 1, 1) := by decide +kernel
theorem dL_act_431 : decode cL_act 431 = .ok (.goto 4, 3) := by decide +kernel
theorem dL_act_434 : decode cL_act 434 = .ok (.iconst 0, 1) := by decide +kernel
theorem dL_act_435 : decode cL_act 435 = .ok (.bastore, 1) := by decide +kernel
theorem dL_act_436 : decode cL_act 436 = .ok (.aload_n 0, 1) := by decide +kernel
theorem dL_act_437 : decode cL_act 437 = .ok (.iload 5, 2) := by decide +kernel
theorem dL_act_439 : decode cL_act 439 = .ok (.iload 11, 2) := by decide +kernel
theorem dL_act_441 : decode cL_act 441 = .ok (.invokevirtual 55, 3) := by decide +kernel
theorem dL_act_444 : decode cL_act 444 = .ok (.aload 6, 2) := by decide +kernel
theorem dL_act_446 : decode cL_act 446 = .ok (.getfield 51, 3) := by decide +kernel
theorem dL_act_449 : decode cL_act 449 = .ok (.iload 11, 2) := by decide +kernel
theorem dL_act_451 : decode cL_act 451 = .ok (.baload, 1) := by decide +kernel
theorem dL_act_452 : decode cL_act 452 = .ok (.if_icmp .ne 7, 3) := by decide +kernel
theorem dL_act_455 : decode cL_act 455 = .ok (.iconst 1, 1) := by decide +kernel
theorem dL_act_456 : decode cL_act 456 = .ok (.goto 4, 3) := by decide +kernel
theorem dL_act_459 : decode cL_act 459 = .ok (.iconst 0, 1) := by decide +kernel
theorem dL_act_460 : decode cL_act 460 = .ok (.ireturn, 1) := by decide +kernel
theorem dL_act_461 : decode cL_act 461 = .ok (.iconst 1, 1) := by decide +kernel
theorem dL_act_462 : decode cL_act 462 = .ok (.iload_n 2, 1) := by decide +kernel
theorem dL_act_463 : decode cL_act 463 = .ok (.iconst 2, 1) := by decide +kernel
theorem dL_act_464 : decode cL_act 464 = .ok (.ishr, 1) := by decide +kernel
theorem dL_act_465 : decode cL_act 465 = .ok (.bipush 9, 2) := by decide +kernel
theorem dL_act_467 : decode cL_act 467 = .ok (.invokestatic 19, 3) := by decide +kernel
theorem dL_act_470 : decode cL_act 470 = .ok (.iadd, 1) := by decide +kernel
theorem dL_act_471 : decode cL_act 471 = .ok (.istore 12, 2) := by decide +kernel
theorem dL_act_473 : decode cL_act 473 = .ok (.iload 12, 2) := by decide +kernel
theorem dL_act_475 : decode cL_act 475 = .ok (.iload_n 2, 1) := by decide +kernel
theorem dL_act_476 : decode cL_act 476 = .ok (.iconst 4, 1) := by decide +kernel
theorem dL_act_477 : decode cL_act 477 = .ok (.ishr, 1) := by decide +kernel
theorem dL_act_478 : decode cL_act 478 = .ok (.bipush 13, 2) := by decide +kernel
theorem dL_act_480 : decode cL_act 480 = .ok (.iload 12, 2) := by decide +kernel
theorem dL_act_482 : decode cL_act 482 = .ok (.isub, 1) := by decide +kernel
theorem dL_act_483 : decode cL_act 483 = .ok (.invokestatic 19, 3) := by decide +kernel
theorem dL_act_486 : decode cL_act 486 = .ok (.iadd, 1) := by decide +kernel
theorem dL_act_487 : decode cL_act 487 = .ok (.istore 13, 2) := by decide +kernel
theorem dL_act_489 : decode cL_act 489 = .ok (.aload_n 1, 1) := by decide +kernel
theorem dL_act_490 : decode cL_act 490 = .ok (.getfield 59, 3) := by decide +kernel
theorem dL_act_493 : decode cL_act 493 = .ok (.iconst 2, 1) := by decide +kernel
theorem dL_act_494 : decode cL_act 494 = .ok (.iaload, 1) := by decide +kernel
theorem dL_act_495 : decode cL_act 495 = .ok (.iload 13, 2) := by decide +kernel
theorem dL_act_497 : decode cL_act 497 = .ok (.if_icmp .ge 5, 3) := by decide +kernel
theorem dL_act_500 : decode cL_act 500 = .ok (.iconst 1, 1) := by decide +kernel
theorem dL_act_501 : decode cL_act 501 = .ok (.ireturn, 1) := by decide +kernel
theorem dL_act_502 : decode cL_act 502 = .ok (.aload_n 1, 1) := by decide +kernel
theorem dL_act_503 : decode cL_act 503 = .ok (.getfield 59, 3) := by decide +kernel
theorem dL_act_506 : decode cL_act 506 = .ok (.iconst 2, 1) := by decide +kernel
theorem dL_act_507 : decode cL_act 507 = .ok (.bipush 99, 2) := by decide +kernel
theorem dL_act_509 : decode cL_act 509 = .ok (.aload_n 1, 1) := by decide +kernel
theorem dL_act_510 : decode cL_act 510 = .ok (.getfield 59, 3) := by decide +kernel
theorem dL_act_513 : decode cL_act 513 = .ok (.iconst 2, 1) := by decide +kernel
theorem dL_act_514 : decode cL_act 514 = .ok (.iaload, 1) := by decide +kernel
theorem dL_act_515 : decode cL_act 515 = .ok (.iload 13, 2) := by decide +kernel
theorem dL_act_517 : decode cL_act 517 = .ok (.isub, 1) := by decide +kernel
theorem dL_act_518 : decode cL_act 518 = .ok (.aload 6, 2) := by decide +kernel
theorem dL_act_520 : decode cL_act 520 = .ok (.getfield 62, 3) := by decide +kernel
theorem dL_act_523 : decode cL_act 523 = .ok (.iadd, 1) := by decide +kernel
theorem dL_act_524 : decode cL_act 524 = .ok (.invokestatic 65, 3) := by decide +kernel
theorem dL_act_527 : decode cL_act 527 = .ok (.iastore, 1) := by decide +kernel
theorem dL_act_528 : decode cL_act 528 = .ok (.aload 6, 2) := by decide +kernel
theorem dL_act_530 : decode cL_act 530 = .ok (.iload 12, 2) := by decide +kernel
theorem dL_act_532 : decode cL_act 532 = .ok (.putfield 70, 3) := by decide +kernel
theorem dL_act_535 : decode cL_act 535 = .ok (.aload 6, 2) := by decide +kernel
theorem dL_act_537 : decode cL_act 537 = .ok (.iload 13, 2) := by decide +kernel
theorem dL_act_539 : decode cL_act 539 = .ok (.putfield 62, 3) := by decide +kernel
theorem dL_act_542 : decode cL_act 542 = .ok (.aload_n 0, 1) := by decide +kernel
theorem dL_act_543 : decode cL_act 543 = .ok (.iload 5, 2) := by decide +kernel
theorem dL_act_545 : decode cL_act 545 = .ok (.iload 12, 2) := by decide +kernel
theorem dL_act_547 : decode cL_act 547 = .ok (.iload 13, 2) := by decide +kernel
theorem dL_act_549 : decode cL_act 549 = .ok (.invokevirtual 73, 3) := by decide +kernel
theorem dL_act_552 : decode cL_act 552 = .ok (.aload_n 1, 1) := by decide +kernel
theorem dL_act_553 : decode cL_act 553 = .ok (.getfield 59, 3) := by decide +kernel
theorem dL_act_556 : decode cL_act 556 = .ok (.iconst 2, 1) := by decide +kernel
theorem dL_act_557 : decode cL_act 557 = .ok (.iaload, 1) := by decide +kernel
theorem dL_act_558 : decode cL_act 558 = .ok (.if_icmp .ne 7, 3) := by decide +kernel
theorem dL_act_561 : decode cL_act 561 = .ok (.iconst 1, 1) := by decide +kernel
theorem dL_act_562 : decode cL_act 562 = .ok (.goto 4, 3) := by decide +kernel
theorem dL_act_565 : decode cL_act 565 = .ok (.iconst 0, 1) := by decide +kernel
theorem dL_act_566 : decode cL_act 566 = .ok (.ireturn, 1) := by decide +kernel
theorem dL_act_567 : decode cL_act 567 = .ok (.iload_n 2, 1) := by decide +kernel
theorem dL_act_568 : decode cL_act 568 = .ok (.iconst 2, 1) := by decide +kernel
theorem dL_act_569 : decode cL_act 569 = .ok (.ishr, 1) := by decide +kernel
theorem dL_act_570 : decode cL_act 570 = .ok (.iconst 5, 1) := by decide +kernel
theorem dL_act_571 : decode cL_act 571 = .ok (.invokestatic 19, 3) := by decide +kernel
theorem dL_act_574 : decode cL_act 574 = .ok (.istore 14, 2) := by decide +kernel
theorem dL_act_576 : decode cL_act 576 = .ok (.iconst 1, 1) := by decide +kernel
theorem dL_act_577 : decode cL_act 577 = .ok (.iload_n 2, 1) := by decide +kernel
theorem dL_act_578 : decode cL_act 578 = .ok (.iconst 4, 1) := by decide +kernel
theorem dL_act_579 : decode cL_act 579 = .ok (.ishr, 1) := by decide +kernel
theorem dL_act_580 : decode cL_act 580 = .ok (.bipush 99, 2) := by decide +kernel
theorem dL_act_582 : decode cL_act 582 = .ok (.invokestatic 19, 3) := by decide +kernel
theorem dL_act_585 : decode cL_act 585 = .ok (.iadd, 1) := by decide +kernel
theorem dL_act_586 : decode cL_act 586 = .ok (.istore 15, 2) := by decide +kernel
theorem dL_act_588 : decode cL_act 588 = .ok (.aload_n 1, 1) := by decide +kernel
theorem dL_act_589 : decode cL_act 589 = .ok (.getfield 59, 3) := by decide +kernel
theorem dL_act_592 : decode cL_act 592 = .ok (.iload 14, 2) := by decide +kernel
theorem dL_act_594 : decode cL_act 594 = .ok (.bipush 99, 2) := by decide +kernel
theorem dL_act_596 : decode cL_act 596 = .ok (.aload_n 1, 1) := by decide +kernel
theorem dL_act_597 : decode cL_act 597 = .ok (.getfield 59, 3) := by decide +kernel
theorem dL_act_600 : decode cL_act 600 = .ok (.iload 14, 2) := by decide +kernel
theorem dL_act_602 : decode cL_act 602 = .ok (.iaload, 1) := by decide +kernel
theorem dL_act_603 : decode cL_act 603 = .ok (.iload 15, 2) := by decide +kernel
theorem dL_act_605 : decode cL_act 605 = .ok (.iadd, 1) := by decide +kernel
theorem dL_act_606 : decode cL_act 606 = .ok (.invokestatic 65, 3) := by decide +kernel
theorem dL_act_609 : decode cL_act 609 = .ok (.iastore, 1) := by decide +kernel
theorem dL_act_610 : decode cL_act 610 = .ok (.aload_n 0, 1) := by decide +kernel
theorem dL_act_611 : decode cL_act 611 = .ok (.iload 14, 2) := by decide +kernel
theorem dL_act_613 : decode cL_act 613 = .ok (.iload 15, 2) := by decide +kernel
theorem dL_act_615 : decode cL_act 615 = .ok (.invokevirtual 77, 3) := by decide +kernel
theorem dL_act_618 : decode cL_act 618 = .ok (.aload_n 1, 1) := by decide +kernel
theorem dL_act_619 : decode cL_act 619 = .ok (.getfield 59, 3) := by decide +kernel
theorem dL_act_622 : decode cL_act 622 = .ok (.iload 14, 2) := by decide +kernel
theorem dL_act_624 : decode cL_act 624 = .ok (.iaload, 1) := by decide +kernel
theorem dL_act_625 : decode cL_act 625 = .ok (.if_icmp .ne 7, 3) := by decide +kernel
theorem dL_act_628 : decode cL_act 628 = .ok (.iconst 1, 1) := by decide +kernel
theorem dL_act_629 : decode cL_act 629 = .ok (.goto 4, 3) := by decide +kernel
theorem dL_act_632 : decode cL_act 632 = .ok (.iconst 0, 1) := by decide +kernel
theorem dL_act_633 : decode cL_act 633 = .ok (.ireturn, 1) := by decide +kernel
theorem dL_act_634 : decode cL_act 634 = .ok (.iload_n 2, 1) := by decide +kernel
theorem dL_act_635 : decode cL_act 635 = .ok (.iconst 3, 1) := by decide +kernel
theorem dL_act_636 : decode cL_act 636 = .ok (.ishr, 1) := by decide +kernel
theorem dL_act_637 : decode cL_act 637 = .ok (.iconst 5, 1) := by decide +kernel
theorem dL_act_638 : decode cL_act 638 = .ok (.invokestatic 19, 3) := by decide +kernel
theorem dL_act_641 : decode cL_act 641 = .ok (.istore 16, 2) := by decide +kernel
theorem dL_act_643 : decode cL_act 643 = .ok (.iload_n 2, 1) := by decide +kernel
theorem dL_act_644 : decode cL_act 644 = .ok (.iconst 1, 1) := by decide +kernel
theorem dL_act_645 : decode cL_act 645 = .ok (.ishr, 1) := by decide +kernel
theorem dL_act_646 : decode cL_act 646 = .ok (.bipush 6, 2) := by decide +kernel
theorem dL_act_648 : decode cL_act 648 = .ok (.invokestatic 19, 3) := by decide +kernel
theorem dL_act_651 : decode cL_act 651 = .ok (.istore 17, 2) := by decide +kernel
theorem dL_act_653 : decode cL_act 653 = .ok (.aload_n 1, 1) := by decide +kernel
theorem dL_act_654 : decode cL_act 654 = .ok (.getfield 59, 3) := by decide +kernel
theorem dL_act_657 : decode cL_act 657 = .ok (.iload 16, 2) := by decide +kernel
theorem dL_act_659 : decode cL_act 659 = .ok (.iaload, 1) := by decide +kernel
theorem dL_act_660 : decode cL_act 660 = .ok (.ifCond .eq 27, 3) := by decide +kernel
theorem dL_act_663 : decode cL_act 663 = .ok (.iload 16, 2) := by decide +kernel
theorem dL_act_665 : decode cL_act 665 = .ok (.iconst 2, 1) := by decide +kernel
theorem dL_act_666 : decode cL_act 666 = .ok (.if_icmp .ne 23, 3) := by decide +kernel
theorem dL_act_669 : decode cL_act 669 = .ok (.aload 6, 2) := by decide +kernel
theorem dL_act_671 : decode cL_act 671 = .ok (.getfield 70, 3) := by decide +kernel
theorem dL_act_674 : decode cL_act 674 = .ok (.ifCond .eq 13, 3) := by decide +kernel
theorem dL_act_677 : decode cL_act 677 = .ok (.aload 6, 2) := by decide +kernel
theorem dL_act_679 : decode cL_act 679 = .ok (.getfield 62, 3) := by decide +kernel
theorem dL_act_682 : decode cL_act 682 = .ok (.bipush 12, 2) := by decide +kernel
theorem dL_act_684 : decode cL_act 684 = .ok (.if_icmp .ne 5, 3) := by decide +kernel
theorem dL_act_687 : decode cL_act 687 = .ok (.iconst 1, 1) := by decide +kernel
theorem dL_act_688 : decode cL_act 688 = .ok (.ireturn, 1) := by decide +kernel
theorem dL_act_689 : decode cL_act 689 = .ok (.aload_n 1, 1) := by decide +kernel
theorem dL_act_690 : decode cL_act 690 = .ok (.getfield 59, 3) := by decide +kernel
theorem dL_act_693 : decode cL_act 693 = .ok (.iload 16, 2) := by decide +kernel
theorem dL_act_695 : decode cL_act 695 = .ok (.dup2, 1) := by decide +kernel
theorem dL_act_696 : decode cL_act 696 = .ok (.iaload, 1) := by decide +kernel
theorem dL_act_697 : decode cL_act 697 = .ok (.iconst 1, 1) := by decide +kernel
theorem dL_act_698 : decode cL_act 698 = .ok (.isub, 1) := by decide +kernel
theorem dL_act_699 : decode cL_act 699 = .ok (.iastore, 1) := by decide +kernel
theorem dL_act_700 : decode cL_act 700 = .ok (.iload 16, 2) := by decide +kernel
theorem dL_act_702 : decode cL_act 702 = .ok (.ifCond .ne 14, 3) := by decide +kernel
theorem dL_act_705 : decode cL_act 705 = .ok (.aload 6, 2) := by decide +kernel
theorem dL_act_707 : decode cL_act 707 = .ok (.getfield 80, 3) := by decide +kernel
theorem dL_act_710 : decode cL_act 710 = .ok (.iload 17, 2) := by decide +kernel
theorem dL_act_712 : decode cL_act 712 = .ok (.aaload, 1) := by decide +kernel
theorem dL_act_713 : decode cL_act 713 = .ok (.iconst 1, 1) := by decide +kernel
theorem dL_act_714 : decode cL_act 714 = .ok (.iconst 0, 1) := by decide +kernel
theorem dL_act_715 : decode cL_act 715 = .ok (.iastore, 1) := by decide +kernel
theorem dL_act_716 : decode cL_act 716 = .ok (.iload 16, 2) := by decide +kernel
theorem dL_act_718 : decode cL_act 718 = .ok (.iconst 2, 1) := by decide +kernel
theorem dL_act_719 : decode cL_act 719 = .ok (.if_icmp .ge 18, 3) := by decide +kernel
