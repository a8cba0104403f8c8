/-! printed rows that this part uses -/
theorem dL_law_334 : decode cL_law 334 = .ok (.aload_n 1, 1) := by decide +kernel
theorem dL_law_335 : decode cL_law 335 = .ok (.aload_n 0, 1) := by decide +kernel
theorem dL_law_336 : decode cL_law 336 = .ok (.iload 5, 2) := by decide +kernel
theorem dL_law_338 : decode cL_law 338 = .ok (.iconst 1, 1) := by decide +kernel
theorem dL_law_339 : decode cL_law 339 = .ok (.iadd, 1) := by decide +kernel
theorem dL_law_340 : decode cL_law 340 = .ok (.iaload, 1) := by decide +kernel
theorem dL_law_341 : decode cL_law 341 = .ok (.aload_n 0, 1) := by decide +kernel
theorem dL_law_342 : decode cL_law 342 = .ok (.iload 5, 2) := by decide +kernel
theorem dL_law_344 : decode cL_law 344 = .ok (.iconst 2, 1) := by decide +kernel
theorem dL_law_345 : decode cL_law 345 = .ok (.iadd, 1) := by decide +kernel
theorem dL_law_346 : decode cL_law 346 = .ok (.iaload, 1) := by decide +kernel
theorem dL_law_347 : decode cL_law 347 = .ok (.aload_n 0, 1) := by decide +kernel
theorem dL_law_348 : decode cL_law 348 = .ok (.iload 5, 2) := by decide +kernel
theorem dL_law_350 : decode cL_law 350 = .ok (.iconst 3, 1) := by decide +kernel
theorem dL_law_351 : decode cL_law 351 = .ok (.iadd, 1) := by decide +kernel
theorem dL_law_352 : decode cL_law 352 = .ok (.iaload, 1) := by decide +kernel
theorem dL_law_353 : decode cL_law 353 = .ok (.aload_n 3, 1) := by decide +kernel
theorem dL_law_354 : decode cL_law 354 = .ok (.invokestatic 142, 3) := by decide +kernel
theorem dL_law_357 : decode cL_law 357 = .ok (.istore 6, 2) := by decide +kernel
theorem dL_law_359 : decode cL_law 359 = .ok (.aload_n 2, 1) := by decide +kernel
theorem dL_law_360 : decode cL_law 360 = .ok (.aload_n 0, 1) := by decide +kernel
theorem dL_law_361 : decode cL_law 361 = .ok (.iload 5, 2) := by decide +kernel
theorem dL_law_363 : decode cL_law 363 = .ok (.iconst 1, 1) := by decide +kernel
theorem dL_law_364 : decode cL_law 364 = .ok (.iadd, 1) := by decide +kernel
theorem dL_law_365 : decode cL_law 365 = .ok (.iaload, 1) := by decide +kernel
theorem dL_law_366 : decode cL_law 366 = .ok (.aload_n 0, 1) := by decide +kernel
theorem dL_law_367 : decode cL_law 367 = .ok (.iload 5, 2) := by decide +kernel
theorem dL_law_369 : decode cL_law 369 = .ok (.iconst 2, 1) := by decide +kernel
theorem dL_law_370 : decode cL_law 370 = .ok (.iadd, 1) := by decide +kernel
theorem dL_law_371 : decode cL_law 371 = .ok (.iaload, 1) := by decide +kernel
theorem dL_law_372 : decode cL_law 372 = .ok (.aload_n 0, 1) := by decide +kernel
theorem dL_law_373 : decode cL_law 373 = .ok (.iload 5, 2) := by decide +kernel
theorem dL_law_375 : decode cL_law 375 = .ok (.iconst 3, 1) := by decide +kernel
theorem dL_law_376 : decode cL_law 376 = .ok (.iadd, 1) := by decide +kernel
theorem dL_law_377 : decode cL_law 377 = .ok (.iaload, 1) := by decide +kernel
theorem dL_law_378 : decode cL_law 378 = .ok (.invokevirtual 145, 3) := by decide +kernel
theorem dL_law_381 : decode cL_law 381 = .ok (.istore 7, 2) := by decide +kernel
theorem dL_law_383 : decode cL_law 383 = .ok (.aload_n 2, 1) := by decide +kernel
theorem dL_law_384 : decode cL_law 384 = .ok (.invokevirtual 134, 3) := by decide +kernel
theorem dL_law_387 : decode cL_law 387 = .ok (.iload 6, 2) := by decide +kernel
theorem dL_law_389 : decode cL_law 389 = .ok (.if_icmp .eq 5, 3) := by decide +kernel
theorem dL_law_394 : decode cL_law 394 = .ok (.iload 6, 2) := by decide +kernel
theorem dL_law_396 : decode cL_law 396 = .ok (.ifCond .ne 15, 3) := by decide +kernel
theorem dL_law_411 : decode cL_law 411 = .ok (.goto 2086, 3) := by decide +kernel
theorem dL_law_414 : decode cL_law 414 = .ok (.aload_n 1, 1) := by decide +kernel
theorem dL_law_415 : decode cL_law 415 = .ok (.aload_n 0, 1) := by decide +kernel
theorem dL_law_416 : decode cL_law 416 = .ok (.iload 5, 2) := by decide +kernel
theorem dL_law_418 : decode cL_law 418 = .ok (.iconst 1, 1) := by decide +kernel
theorem dL_law_419 : decode cL_law 419 = .ok (.iadd, 1) := by decide +kernel
theorem dL_law_420 : decode cL_law 420 = .ok (.iaload, 1) := by decide +kernel
theorem dL_law_421 : decode cL_law 421 = .ok (.aload_n 0, 1) := by decide +kernel
theorem dL_law_422 : decode cL_law 422 = .ok (.iload 5, 2) := by decide +kernel
theorem dL_law_424 : decode cL_law 424 = .ok (.iconst 2, 1) := by decide +kernel
theorem dL_law_425 : decode cL_law 425 = .ok (.iadd, 1) := by decide +kernel
theorem dL_law_426 : decode cL_law 426 = .ok (.iaload, 1) := by decide +kernel
theorem dL_law_427 : decode cL_law 427 = .ok (.aload_n 0, 1) := by decide +kernel
theorem dL_law_428 : decode cL_law 428 = .ok (.iload 5, 2) := by decide +kernel
theorem dL_law_430 : decode cL_law 430 = .ok (.iconst 3, 1) := by decide +kernel
theorem dL_law_431 : decode cL_law 431 = .ok (.iadd, 1) := by decide +kernel
theorem dL_law_432 : decode cL_law 432 = .ok (.iaload, 1) := by decide +kernel
theorem dL_law_433 : decode cL_law 433 = .ok (.ifCond .eq 7, 3) := by decide +kernel
theorem dL_law_436 : decode cL_law 436 = .ok (.iconst 1, 1) := by decide +kernel
theorem dL_law_437 : decode cL_law 437 = .ok (.goto 4, 3) := by decide +kernel
theorem dL_law_440 : decode cL_law 440 = .ok (.iconst 0, 1) := by decide +kernel
theorem dL_law_441 : decode cL_law 441 = .ok (.aload_n 3, 1) := by decide +kernel
theorem dL_law_442 : decode cL_law 442 = .ok (.invokestatic 146, 3) := by decide +kernel
theorem dL_law_445 : decode cL_law 445 = .ok (.istore 6, 2) := by decide +kernel
theorem dL_law_447 : decode cL_law 447 = .ok (.aload_n 2, 1) := by decide +kernel
theorem dL_law_448 : decode cL_law 448 = .ok (.aload_n 0, 1) := by decide +kernel
theorem dL_law_449 : decode cL_law 449 = .ok (.iload 5, 2) := by decide +kernel
theorem dL_law_451 : decode cL_law 451 = .ok (.iconst 1, 1) := by decide +kernel
theorem dL_law_452 : decode cL_law 452 = .ok (.iadd, 1) := by decide +kernel
theorem dL_law_453 : decode cL_law 453 = .ok (.iaload, 1) := by decide +kernel
theorem dL_law_454 : decode cL_law 454 = .ok (.aload_n 0, 1) := by decide +kernel
theorem dL_law_455 : decode cL_law 455 = .ok (.iload 5, 2) := by decide +kernel
theorem dL_law_457 : decode cL_law 457 = .ok (.iconst 2, 1) := by decide +kernel
theorem dL_law_458 : decode cL_law 458 = .ok (.iadd, 1) := by decide +kernel
theorem dL_law_459 : decode cL_law 459 = .ok (.iaload, 1) := by decide +kernel
theorem dL_law_460 : decode cL_law 460 = .ok (.aload_n 0, 1) := by decide +kernel
theorem dL_law_461 : decode cL_law 461 = .ok (.iload 5, 2) := by decide +kernel
theorem dL_law_463 : decode cL_law 463 = .ok (.iconst 3, 1) := by decide +kernel
theorem dL_law_464 : decode cL_law 464 = .ok (.iadd, 1) := by decide +kernel
theorem dL_law_465 : decode cL_law 465 = .ok (.iaload, 1) := by decide +kernel
theorem dL_law_466 : decode cL_law 466 = .ok (.ifCond .eq 7, 3) := by decide +kernel
theorem dL_law_469 : decode cL_law 469 = .ok (.iconst 1, 1) := by decide +kernel
theorem dL_law_470 : decode cL_law 470 = .ok (.goto 4, 3) := by decide +kernel
theorem dL_law_473 : decode cL_law 473 = .ok (.iconst 0, 1) := by decide +kernel
theorem dL_law_474 : decode cL_law 474 = .ok (.invokevirtual 149, 3) := by decide +kernel
theorem dL_law_477 : decode cL_law 477 = .ok (.istore 7, 2) := by decide +kernel
theorem dL_law_479 : decode cL_law 479 = .ok (.aload_n 2, 1) := by decide +kernel
theorem dL_law_480 : decode cL_law 480 = .ok (.invokevirtual 134, 3) := by decide +kernel
theorem dL_law_483 : decode cL_law 483 = .ok (.iload 6, 2) := by decide +kernel
theorem dL_law_485 : decode cL_law 485 = .ok (.if_icmp .eq 5, 3) := by decide +kernel
theorem dL_law_490 : decode cL_law 490 = .ok (.iload 6, 2) := by decide +kernel
theorem dL_law_492 : decode cL_law 492 = .ok (.ifCond .ne 22, 3) := by decide +kernel
theorem dL_law_514 : decode cL_law 514 = .ok (.goto 1983, 3) := by decide +kernel
theorem dL_law_517 : decode cL_law 517 = .ok (.aload_n 1, 1) := by decide +kernel
theorem dL_law_518 : decode cL_law 518 = .ok (.aload_n 0, 1) := by decide +kernel
theorem dL_law_519 : decode cL_law 519 = .ok (.iload 5, 2) := by decide +kernel
theorem dL_law_521 : decode cL_law 521 = .ok (.iconst 1, 1) := by decide +kernel
theorem dL_law_522 : decode cL_law 522 = .ok (.iadd, 1) := by decide +kernel
theorem dL_law_523 : decode cL_law 523 = .ok (.iaload, 1) := by decide +kernel
theorem dL_law_524 : decode cL_law 524 = .ok (.aload_n 3, 1) := by decide +kernel
theorem dL_law_525 : decode cL_law 525 = .ok (.invokestatic 150, 3) := by decide +kernel
theorem dL_law_528 : decode cL_law 528 = .ok (.istore 6, 2) := by decide +kernel
theorem dL_law_530 : decode cL_law 530 = .ok (.aload_n 2, 1) := by decide +kernel
theorem dL_law_531 : decode cL_law 531 = .ok (.aload_n 0, 1) := by decide +kernel
theorem dL_law_532 : decode cL_law 532 = .ok (.iload 5, 2) := by decide +kernel
theorem dL_law_534 : decode cL_law 534 = .ok (.iconst 1, 1) := by decide +kernel
theorem dL_law_535 : decode cL_law 535 = .ok (.iadd, 1) := by decide +kernel
theorem dL_law_536 : decode cL_law 536 = .ok (.iaload, 1) := by decide +kernel
theorem dL_law_537 : decode cL_law 537 = .ok (.invokevirtual 152, 3) := by decide +kernel
theorem dL_law_540 : decode cL_law 540 = .ok (.istore 7, 2) := by decide +kernel
theorem dL_law_542 : decode cL_law 542 = .ok (.aload_n 2, 1) := by decide +kernel
theorem dL_law_543 : decode cL_law 543 = .ok (.invokevirtual 134, 3) := by decide +kernel
theorem dL_law_546 : decode cL_law 546 = .ok (.iload 6, 2) := by decide +kernel
theorem dL_law_548 : decode cL_law 548 = .ok (.if_icmp .eq 5, 3) := by decide +kernel
theorem dL_law_553 : decode cL_law 553 = .ok (.iload 6, 2) := by decide +kernel
theorem dL_law_555 : decode cL_law 555 = .ok (.ifCond .ne 15, 3) := by decide +kernel
theorem dL_law_570 : decode cL_law 570 = .ok (.goto 1927, 3) := by decide +kernel
theorem dL_law_573 : decode cL_law 573 = .ok (.aload_n 1, 1) := by decide +kernel
theorem dL_law_574 : decode cL_law 574 = .ok (.aload_n 0, 1) := by decide +kernel
theorem dL_law_575 : decode cL_law 575 = .ok (.iload 5, 2) := by decide +kernel
theorem dL_law_577 : decode cL_law 577 = .ok (.iconst 1, 1) := by decide +kernel
theorem dL_law_578 : decode cL_law 578 = .ok (.iadd, 1) := by decide +kernel
theorem dL_law_579 : decode cL_law 579 = .ok (.iaload, 1) := by decide +kernel
theorem dL_law_580 : decode cL_law 580 = .ok (.aload_n 0, 1) := by decide +kernel
theorem dL_law_581 : decode cL_law 581 = .ok (.iload 5, 2) := by decide +kernel
theorem dL_law_583 : decode cL_law 583 = .ok (.iconst 2, 1) := by decide +kernel
theorem dL_law_584 : decode cL_law 584 = .ok (.iadd, 1) := by decide +kernel
theorem dL_law_585 : decode cL_law 585 = .ok (.iaload, 1) := by decide +kernel
theorem dL_law_586 : decode cL_law 586 = .ok (.aload_n 3, 1) := by decide +kernel
theorem dL_law_587 : decode cL_law 587 = .ok (.invokestatic 153, 3) := by decide +kernel
theorem dL_law_590 : decode cL_law 590 = .ok (.istore 6, 2) := by decide +kernel
theorem dL_law_592 : decode cL_law 592 = .ok (.aload_n 2, 1) := by decide +kernel
theorem dL_law_593 : decode cL_law 593 = .ok (.aload_n 0, 1) := by decide +kernel
theorem dL_law_594 : decode cL_law 594 = .ok (.iload 5, 2) := by decide +kernel
theorem dL_law_596 : decode cL_law 596 = .ok (.iconst 1, 1) := by decide +kernel
theorem dL_law_597 : decode cL_law 597 = .ok (.iadd, 1) := by decide +kernel
theorem dL_law_598 : decode cL_law 598 = .ok (.iaload, 1) := by decide +kernel
theorem dL_law_599 : decode cL_law 599 = .ok (.aload_n 0, 1) := by decide +kernel
theorem dL_law_600 : decode cL_law 600 = .ok (.iload 5, 2) := by decide +kernel
theorem dL_law_602 : decode cL_law 602 = .ok (.iconst 2, 1) := by decide +kernel
theorem dL_law_603 : decode cL_law 603 = .ok (.iadd, 1) := by decide +kernel
theorem dL_law_604 : decode cL_law 604 = .ok (.iaload, 1) := by decide +kernel
theorem dL_law_605 : decode cL_law 605 = .ok (.invokevirtual 156, 3) := by decide +kernel
theorem dL_law_608 : decode cL_law 608 = .ok (.istore 7, 2) := by decide +kernel
theorem dL_law_610 : decode cL_law 610 = .ok (.aload_n 2, 1) := by decide +kernel
theorem dL_law_611 : decode cL_law 611 = .ok (.invokevirtual 134, 3) := by decide +kernel
theorem dL_law_614 : decode cL_law 614 = .ok (.iload 6, 2) := by decide +kernel
theorem dL_law_616 : decode cL_law 616 = .ok (.if_icmp .eq 5, 3) := by decide +kernel
theorem dL_law_621 : decode cL_law 621 = .ok (.iload 6, 2) := by decide +kernel
theorem dL_law_623 : decode cL_law 623 = .ok (.ifCond .ne 15, 3) := by decide +kernel
theorem dL_law_638 : decode cL_law 638 = .ok (.goto 1859, 3) := by decide +kernel
theorem dL_law_697 : decode cL_law 697 = .ok (.aload_n 1, 1) := by decide +kernel
theorem dL_law_698 : decode cL_law 698 = .ok (.aload_n 0, 1) := by decide +kernel
theorem dL_law_699 : decode cL_law 699 = .ok (.iload 5, 2) := by decide +kernel
theorem dL_law_701 : decode cL_law 701 = .ok (.iconst 1, 1) := by decide +kernel
theorem dL_law_702 : decode cL_law 702 = .ok (.iadd, 1) := by decide +kernel
theorem dL_law_703 : decode cL_law 703 = .ok (.iaload, 1) := by decide +kernel
theorem dL_law_704 : decode cL_law 704 = .ok (.aload_n 0, 1) := by decide +kernel
theorem dL_law_705 : decode cL_law 705 = .ok (.iload 5, 2) := by decide +kernel
theorem dL_law_707 : decode cL_law 707 = .ok (.iconst 2, 1) := by decide +kernel
theorem dL_law_708 : decode cL_law 708 = .ok (.iadd, 1) := by decide +kernel
theorem dL_law_709 : decode cL_law 709 = .ok (.iaload, 1) := by decide +kernel
theorem dL_law_710 : decode cL_law 710 = .ok (.aload_n 3, 1) := by decide +kernel
theorem dL_law_711 : decode cL_law 711 = .ok (.invokestatic 160, 3) := by decide +kernel
theorem dL_law_714 : decode cL_law 714 = .ok (.istore 6, 2) := by decide +kernel
theorem dL_law_716 : decode cL_law 716 = .ok (.aload_n 2, 1) := by decide +kernel
theorem dL_law_717 : decode cL_law 717 = .ok (.aload_n 0, 1) := by decide +kernel
theorem dL_law_718 : decode cL_law 718 = .ok (.iload 5, 2) := by decide +kernel
theorem dL_law_720 : decode cL_law 720 = .ok (.iconst 1, 1) := by decide +kernel
theorem dL_law_721 : decode cL_law 721 = .ok (.iadd, 1) := by decide +kernel
theorem dL_law_722 : decode cL_law 722 = .ok (.iaload, 1) := by decide +kernel
theorem dL_law_723 : decode cL_law 723 = .ok (.aload_n 0, 1) := by decide +kernel
theorem dL_law_724 : decode cL_law 724 = .ok (.iload 5, 2) := by decide +kernel
theorem dL_law_726 : decode cL_law 726 = .ok (.iconst 2, 1) := by decide +kernel
theorem dL_law_727 : decode cL_law 727 = .ok (.iadd, 1) := by decide +kernel
theorem dL_law_728 : decode cL_law 728 = .ok (.iaload, 1) := by decide +kernel
theorem dL_law_729 : decode cL_law 729 = .ok (.invokevirtual 162, 3) := by decide +kernel
theorem dL_law_732 : decode cL_law 732 = .ok (.istore 7, 2) := by decide +kernel
theorem dL_law_734 : decode cL_law 734 = .ok (.aload_n 2, 1) := by decide +kernel
theorem dL_law_735 : decode cL_law 735 = .ok (.invokevirtual 134, 3) := by decide +kernel
theorem dL_law_738 : decode cL_law 738 = .ok (.iload 6, 2) := by decide +kernel
theorem dL_law_740 : decode cL_law 740 = .ok (.if_icmp .eq 5, 3) := by decide +kernel
theorem dL_law_745 : decode cL_law 745 = .ok (.iload 6, 2) := by decide +kernel
theorem dL_law_747 : decode cL_law 747 = .ok (.ifCond .ne 15, 3) := by decide +kernel
theorem dL_law_762 : decode cL_law 762 = .ok (.goto 1735, 3) := by decide +kernel
theorem dL_law_765 : decode cL_law 765 = .ok (.aload_n 1, 1) := by decide +kernel
theorem dL_law_766 : decode cL_law 766 = .ok (.aload_n 0, 1) := by decide +kernel
theorem dL_law_767 : decode cL_law 767 = .ok (.iload 5, 2) := by decide +kernel
theorem dL_law_769 : decode cL_law 769 = .ok (.iconst 1, 1) := by decide +kernel
theorem dL_law_770 : decode cL_law 770 = .ok (.iadd, 1) := by decide +kernel
theorem dL_law_771 : decode cL_law 771 = .ok (.iaload, 1) := by decide +kernel
theorem dL_law_772 : decode cL_law 772 = .ok (.aload_n 0, 1) := by decide +kernel
theorem dL_law_773 : decode cL_law 773 = .ok (.iload 5, 2) := by decide +kernel
theorem dL_law_775 : decode cL_law 775 = .ok (.iconst 2, 1) := by decide +kernel
theorem dL_law_776 : decode cL_law 776 = .ok (.iadd, 1) := by decide +kernel
theorem dL_law_777 : decode cL_law 777 = .ok (.iaload, 1) := by decide +kernel
theorem dL_law_778 : decode cL_law 778 = .ok (.aload_n 0, 1) := by decide +kernel
theorem dL_law_779 : decode cL_law 779 = .ok (.iload 5, 2) := by decide +kernel
theorem dL_law_781 : decode cL_law 781 = .ok (.iconst 3, 1) := by decide +kernel
theorem dL_law_782 : decode cL_law 782 = .ok (.iadd, 1) := by decide +kernel
theorem dL_law_783 : decode cL_law 783 = .ok (.iaload, 1) := by decide +kernel
theorem dL_law_784 : decode cL_law 784 = .ok (.aload_n 3, 1) := by decide +kernel
theorem dL_law_785 : decode cL_law 785 = .ok (.invokestatic 163, 3) := by decide +kernel
theorem dL_law_788 : decode cL_law 788 = .ok (.istore 6, 2) := by decide +kernel
theorem dL_law_790 : decode cL_law 790 = .ok (.aload_n 2, 1) := by decide +kernel
theorem dL_law_791 : decode cL_law 791 = .ok (.aload_n 0, 1) := by decide +kernel
theorem dL_law_792 : decode cL_law 792 = .ok (.iload 5, 2) := by decide +kernel
theorem dL_law_794 : decode cL_law 794 = .ok (.iconst 1, 1) := by decide +kernel
theorem dL_law_795 : decode cL_law 795 = .ok (.iadd, 1) := by decide +kernel
theorem dL_law_796 : decode cL_law 796 = .ok (.iaload, 1) := by decide +kernel
theorem dL_law_797 : decode cL_law 797 = .ok (.aload_n 0, 1) := by decide +kernel
theorem dL_law_798 : decode cL_law 798 = .ok (.iload 5, 2) := by decide +kernel
theorem dL_law_800 : decode cL_law 800 = .ok (.iconst 2, 1) := by decide +kernel
theorem dL_law_801 : decode cL_law 801 = .ok (.iadd, 1) := by decide +kernel
theorem dL_law_802 : decode cL_law 802 = .ok (.iaload, 1) := by decide +kernel
theorem dL_law_803 : decode cL_law 803 = .ok (.aload_n 0, 1) := by decide +kernel
theorem dL_law_804 : decode cL_law 804 = .ok (.iload 5, 2) := by decide +kernel
theorem dL_law_806 : decode cL_law 806 = .ok (.iconst 3, 1) := by decide +kernel
theorem dL_law_807 : decode cL_law 807 = .ok (.iadd, 1) := by decide +kernel
theorem dL_law_808 : decode cL_law 808 = .ok (.iaload, 1) := by decide +kernel
theorem dL_law_809 : decode cL_law 809 = .ok (.invokevirtual 165, 3) := by decide +kernel
theorem dL_law_812 : decode cL_law 812 = .ok (.istore 7, 2) := by decide +kernel
theorem dL_law_814 : decode cL_law 814 = .ok (.aload_n 2, 1) := by decide +kernel
theorem dL_law_815 : decode cL_law 815 = .ok (.invokevirtual 134, 3) := by decide +kernel
theorem dL_law_818 : decode cL_law 818 = .ok (.iload 6, 2) := by decide +kernel
theorem dL_law_820 : decode cL_law 820 = .ok (.if_icmp .eq 5, 3) := by decide +kernel
theorem dL_law_825 : decode cL_law 825 = .ok (.iload 6, 2) := by decide +kernel
theorem dL_law_827 : decode cL_law 827 = .ok (.ifCond .ne 15, 3) := by decide +kernel
theorem dL_law_842 : decode cL_law 842 = .ok (.goto 1655, 3) := by decide +kernel
theorem dL_law_845 : decode cL_law 845 = .ok (.aload_n 1, 1) := by decide +kernel
theorem dL_law_846 : decode cL_law 846 = .ok (.aload_n 0, 1) := by decide +kernel
theorem dL_law_847 : decode cL_law 847 = .ok (.iload 5, 2) := by decide +kernel
theorem dL_law_849 : decode cL_law 849 = .ok (.iconst 1, 1) := by decide +kernel
theorem dL_law_850 : decode cL_law 850 = .ok (.iadd, 1) := by decide +kernel
theorem dL_law_851 : decode cL_law 851 = .ok (.iaload, 1) := by decide +kernel
theorem dL_law_852 : decode cL_law 852 = .ok (.aload_n 0, 1) := by decide +kernel
theorem dL_law_853 : decode cL_law 853 = .ok (.iload 5, 2) := by decide +kernel
theorem dL_law_855 : decode cL_law 855 = .ok (.iconst 2, 1) := by decide +kernel
theorem dL_law_856 : decode cL_law 856 = .ok (.iadd, 1) := by decide +kernel
theorem dL_law_857 : decode cL_law 857 = .ok (.iaload, 1) := by decide +kernel
theorem dL_law_858 : decode cL_law 858 = .ok (.aload_n 0, 1) := by decide +kernel
theorem dL_law_859 : decode cL_law 859 = .ok (.iload 5, 2) := by decide +kernel
theorem dL_law_861 : decode cL_law 861 = .ok (.iconst 3, 1) := by decide +kernel
theorem dL_law_862 : decode cL_law 862 = .ok (.iadd, 1) := by decide +kernel
theorem dL_law_863 : decode cL_law 863 = .ok (.iaload, 1) := by decide +kernel
theorem dL_law_864 : decode cL_law 864 = .ok (.aload_n 0, 1) := by decide +kernel
theorem dL_law_865 : decode cL_law 865 = .ok (.iload 5, 2) := by decide +kernel
theorem dL_law_867 : decode cL_law 867 = .ok (.iconst 4, 1) := by decide +kernel
theorem dL_law_868 : decode cL_law 868 = .ok (.iadd, 1) := by decide +kernel
theorem dL_law_869 : decode cL_law 869 = .ok (.iaload, 1) := by decide +kernel
theorem dL_law_870 : decode cL_law 870 = .ok (.aload_n 0, 1) := by decide +kernel
theorem dL_law_871 : decode cL_law 871 = .ok (.iload 5, 2) := by decide +kernel
theorem dL_law_873 : decode cL_law 873 = .ok (.iconst 5, 1) := by decide +kernel
theorem dL_law_874 : decode cL_law 874 = .ok (.iadd, 1) := by decide +kernel
theorem dL_law_875 : decode cL_law 875 = .ok (.iaload, 1) := by decide +kernel
theorem dL_law_876 : decode cL_law 876 = .ok (.ifCond .eq 7, 3) := by decide +kernel
theorem dL_law_879 : decode cL_law 879 = .ok (.iconst 1, 1) := by decide +kernel
theorem dL_law_880 : decode cL_law 880 = .ok (.goto 4, 3) := by decide +kernel
theorem dL_law_883 : decode cL_law 883 = .ok (.iconst 0, 1) := by decide +kernel
theorem dL_law_884 : decode cL_law 884 = .ok (.aload_n 0, 1) := by decide +kernel
theorem dL_law_885 : decode cL_law 885 = .ok (.iload 5, 2) := by decide +kernel
theorem dL_law_887 : decode cL_law 887 = .ok (.bipush 6, 2) := by decide +kernel
theorem dL_law_889 : decode cL_law 889 = .ok (.iadd, 1) := by decide +kernel
theorem dL_law_890 : decode cL_law 890 = .ok (.iaload, 1) := by decide +kernel
theorem dL_law_891 : decode cL_law 891 = .ok (.aload_n 3, 1) := by decide +kernel
theorem dL_law_892 : decode cL_law 892 = .ok (.invokestatic 166, 3) := by decide +kernel
theorem dL_law_895 : decode cL_law 895 = .ok (.istore 6, 2) := by decide +kernel
theorem dL_law_897 : decode cL_law 897 = .ok (.aload_n 2, 1) := by decide +kernel
theorem dL_law_898 : decode cL_law 898 = .ok (.aload_n 0, 1) := by decide +kernel
theorem dL_law_899 : decode cL_law 899 = .ok (.iload 5, 2) := by decide +kernel
theorem dL_law_901 : decode cL_law 901 = .ok (.iconst 1, 1) := by decide +kernel
theorem dL_law_902 : decode cL_law 902 = .ok (.iadd, 1) := by decide +kernel
theorem dL_law_903 : decode cL_law 903 = .ok (.iaload, 1) := by decide +kernel
theorem dL_law_904 : decode cL_law 904 = .ok (.aload_n 0, 1) := by decide +kernel
theorem dL_law_905 : decode cL_law 905 = .ok (.iload 5, 2) := by decide +kernel
theorem dL_law_907 : decode cL_law 907 = .ok (.iconst 2, 1) := by decide +kernel
theorem dL_law_908 : decode cL_law 908 = .ok (.iadd, 1) := by decide +kernel
theorem dL_law_909 : decode cL_law 909 = .ok (.iaload, 1) := by decide +kernel
theorem dL_law_910 : decode cL_law 910 = .ok (.aload_n 0, 1) := by decide +kernel
theorem dL_law_911 : decode cL_law 911 = .ok (.iload 5, 2) := by decide +kernel
theorem dL_law_913 : decode cL_law 913 = .ok (.iconst 3, 1) := by decide +kernel
theorem dL_law_914 : decode cL_law 914 = .ok (.iadd, 1) := by decide +kernel
theorem dL_law_915 : decode cL_law 915 = .ok (.iaload, 1) := by decide +kernel
theorem dL_law_916 : decode cL_law 916 = .ok (.aload_n 0, 1) := by decide +kernel
theorem dL_law_917 : decode cL_law 917 = .ok (.iload 5, 2) := by decide +kernel
theorem dL_law_919 : decode cL_law 919 = .ok (.iconst 4, 1) := by decide +kernel
theorem dL_law_920 : decode cL_law 920 = .ok (.iadd, 1) := by decide +kernel
theorem dL_law_921 : decode cL_law 921 = .ok (.iaload, 1) := by decide +kernel
theorem dL_law_922 : decode cL_law 922 = .ok (.aload_n 0, 1) := by decide +kernel
theorem dL_law_923 : decode cL_law 923 = .ok (.iload 5, 2) := by decide +kernel
theorem dL_law_925 : decode cL_law 925 = .ok (.iconst 5, 1) := by decide +kernel
theorem dL_law_926 : decode cL_law 926 = .ok (.iadd, 1) := by decide +kernel
theorem dL_law_927 : decode cL_law 927 = .ok (.iaload, 1) := by decide +kernel
theorem dL_law_928 : decode cL_law 928 = .ok (.ifCond .eq 7, 3) := by decide +kernel
theorem dL_law_931 : decode cL_law 931 = .ok (.iconst 1, 1) := by decide +kernel
theorem dL_law_932 : decode cL_law 932 = .ok (.goto 4, 3) := by decide +kernel
theorem dL_law_935 : decode cL_law 935 = .ok (.iconst 0, 1) := by decide +kernel
theorem dL_law_936 : decode cL_law 936 = .ok (.aload_n 0, 1) := by decide +kernel
theorem dL_law_937 : decode cL_law 937 = .ok (.iload 5, 2) := by decide +kernel
theorem dL_law_939 : decode cL_law 939 = .ok (.bipush 6, 2) := by decide +kernel
theorem dL_law_941 : decode cL_law 941 = .ok (.iadd, 1) := by decide +kernel
theorem dL_law_942 : decode cL_law 942 = .ok (.iaload, 1) := by decide +kernel
theorem dL_law_943 : decode cL_law 943 = .ok (.invokevirtual 169, 3) := by decide +kernel
theorem dL_law_946 : decode cL_law 946 = .ok (.istore 7, 2) := by decide +kernel
theorem dL_law_948 : decode cL_law 948 = .ok (.aload_n 2, 1) := by decide +kernel
theorem dL_law_949 : decode cL_law 949 = .ok (.invokevirtual 134, 3) := by decide +kernel
theorem dL_law_952 : decode cL_law 952 = .ok (.iload 6, 2) := by decide +kernel
theorem dL_law_954 : decode cL_law 954 = .ok (.if_icmp .eq 5, 3) := by decide +kernel
theorem dL_law_959 : decode cL_law 959 = .ok (.iload 6, 2) := by decide +kernel
theorem dL_law_961 : decode cL_law 961 = .ok (.ifCond .ne 15, 3) := by decide +kernel
theorem dL_law_976 : decode cL_law 976 = .ok (.goto 1521, 3) := by decide +kernel
theorem dL_law_979 : decode cL_law 979 = .ok (.aload_n 1, 1) := by decide +kernel
theorem dL_law_980 : decode cL_law 980 = .ok (.aload_n 0, 1) := by decide +kernel
theorem dL_law_981 : decode cL_law 981 = .ok (.iload 5, 2) := by decide +kernel
theorem dL_law_983 : decode cL_law 983 = .ok (.iconst 1, 1) := by decide +kernel
theorem dL_law_984 : decode cL_law 984 = .ok (.iadd, 1) := by decide +kernel
theorem dL_law_985 : decode cL_law 985 = .ok (.iaload, 1) := by decide +kernel
theorem dL_law_986 : decode cL_law 986 = .ok (.aload_n 0, 1) := by decide +kernel
theorem dL_law_987 : decode cL_law 987 = .ok (.iload 5, 2) := by decide +kernel
theorem dL_law_989 : decode cL_law 989 = .ok (.iconst 2, 1) := by decide +kernel
theorem dL_law_990 : decode cL_law 990 = .ok (.iadd, 1) := by decide +kernel
theorem dL_law_991 : decode cL_law 991 = .ok (.iaload, 1) := by decide +kernel
theorem dL_law_992 : decode cL_law 992 = .ok (.aload_n 0, 1) := by decide +kernel
theorem dL_law_993 : decode cL_law 993 = .ok (.iload 5, 2) := by decide +kernel
theorem dL_law_995 : decode cL_law 995 = .ok (.iconst 3, 1) := by decide +kernel
theorem dL_law_996 : decode cL_law 996 = .ok (.iadd, 1) := by decide +kernel
theorem dL_law_997 : decode cL_law 997 = .ok (.iaload, 1) := by decide +kernel
theorem dL_law_998 : decode cL_law 998 = .ok (.aload_n 0, 1) := by decide +kernel
theorem dL_law_999 : decode cL_law 999 = .ok (.iload 5, 2) := by decide +kernel
theorem dL_law_1001 : decode cL_law 1001 = .ok (.iconst 4, 1) := by decide +kernel
theorem dL_law_1002 : decode cL_law 1002 = .ok (.iadd, 1) := by decide +kernel
theorem dL_law_1003 : decode cL_law 1003 = .ok (.iaload, 1) := by decide +kernel
theorem dL_law_1004 : decode cL_law 1004 = .ok (.aload_n 3, 1) := by decide +kernel
theorem dL_law_1005 : decode cL_law 1005 = .ok (.invokestatic 170, 3) := by decide +kernel
theorem dL_law_1008 : decode cL_law 1008 = .ok (.istore 6, 2) := by decide +kernel
theorem dL_law_1010 : decode cL_law 1010 = .ok (.aload_n 2, 1) := by decide +kernel
theorem dL_law_1011 : decode cL_law 1011 = .ok (.aload_n 0, 1) := by decide +kernel
theorem dL_law_1012 : decode cL_law 1012 = .ok (.iload 5, 2) := by decide +kernel
theorem dL_law_1014 : decode cL_law 1014 = .ok (.iconst 1, 1) := by decide +kernel
theorem dL_law_1015 : decode cL_law 1015 = .ok (.iadd, 1) := by decide +kernel
theorem dL_law_1016 : decode cL_law 1016 = .ok (.iaload, 1) := by decide +kernel
theorem dL_law_1017 : decode cL_law 1017 = .ok (.aload_n 0, 1) := by decide +kernel
theorem dL_law_1018 : decode cL_law 1018 = .ok (.iload 5, 2) := by decide +kernel
theorem dL_law_1020 : decode cL_law 1020 = .ok (.iconst 2, 1) := by decide +kernel
theorem dL_law_1021 : decode cL_law 1021 = .ok (.iadd, 1) := by decide +kernel
theorem dL_law_1022 : decode cL_law 1022 = .ok (.iaload, 1) := by decide +kernel
theorem dL_law_1023 : decode cL_law 1023 = .ok (.aload_n 0, 1) := by decide +kernel
theorem dL_law_1024 : decode cL_law 1024 = .ok (.iload 5, 2) := by decide +kernel
theorem dL_law_1026 : decode cL_law 1026 = .ok (.iconst 3, 1) := by decide +kernel
theorem dL_law_1027 : decode cL_law 1027 = .ok (.iadd, 1) := by decide +kernel
theorem dL_law_1028 : decode cL_law 1028 = .ok (.iaload, 1) := by decide +kernel
theorem dL_law_1029 : decode cL_law 1029 = .ok (.aload_n 0, 1) := by decide +kernel
theorem dL_law_1030 : decode cL_law 1030 = .ok (.iload 5, 2) := by decide +kernel
theorem dL_law_1032 : decode cL_law 1032 = .ok (.iconst 4, 1) := by decide +kernel
theorem dL_law_1033 : decode cL_law 1033 = .ok (.iadd, 1) := by decide +kernel
theorem dL_law_1034 : decode cL_law 1034 = .ok (.iaload, 1) := by decide +kernel
theorem dL_law_1035 : decode cL_law 1035 = .ok (.invokevirtual 173, 3) := by decide +kernel
theorem dL_law_1038 : decode cL_law 1038 = .ok (.istore 7, 2) := by decide +kernel
theorem dL_law_1040 : decode cL_law 1040 = .ok (.aload_n 2, 1) := by decide +kernel
theorem dL_law_1041 : decode cL_law 1041 = .ok (.invokevirtual 134, 3) := by decide +kernel
theorem dL_law_1044 : decode cL_law 1044 = .ok (.iload 6, 2) := by decide +kernel
theorem dL_law_1046 : decode cL_law 1046 = .ok (.if_icmp .eq 5, 3) := by decide +kernel
theorem dL_law_1051 : decode cL_law 1051 = .ok (.iload 6, 2) := by decide +kernel
theorem dL_law_1053 : decode cL_law 1053 = .ok (.ifCond .ne 22, 3) := by decide +kernel
theorem dL_law_1075 : decode cL_law 1075 = .ok (.goto 1422, 3) := by decide +kernel
theorem dL_law_1078 : decode cL_law 1078 = .ok (.aload_n 1, 1) := by decide +kernel
theorem dL_law_1079 : decode cL_law 1079 = .ok (.aload_n 0, 1) := by decide +kernel
theorem dL_law_1080 : decode cL_law 1080 = .ok (.iload 5, 2) := by decide +kernel
theorem dL_law_1082 : decode cL_law 1082 = .ok (.iconst 1, 1) := by decide +kernel
theorem dL_law_1083 : decode cL_law 1083 = .ok (.iadd, 1) := by decide +kernel
theorem dL_law_1084 : decode cL_law 1084 = .ok (.iaload, 1) := by decide +kernel
theorem dL_law_1085 : decode cL_law 1085 = .ok (.aload_n 0, 1) := by decide +kernel
theorem dL_law_1086 : decode cL_law 1086 = .ok (.iload 5, 2) := by decide +kernel
theorem dL_law_1088 : decode cL_law 1088 = .ok (.iconst 2, 1) := by decide +kernel
theorem dL_law_1089 : decode cL_law 1089 = .ok (.iadd, 1) := by decide +kernel
theorem dL_law_1090 : decode cL_law 1090 = .ok (.iaload, 1) := by decide +kernel
theorem dL_law_1091 : decode cL_law 1091 = .ok (.aload_n 0, 1) := by decide +kernel
theorem dL_law_1092 : decode cL_law 1092 = .ok (.iload 5, 2) := by decide +kernel
theorem dL_law_1094 : decode cL_law 1094 = .ok (.iconst 3, 1) := by decide +kernel
theorem dL_law_1095 : decode cL_law 1095 = .ok (.iadd, 1) := by decide +kernel
theorem dL_law_1096 : decode cL_law 1096 = .ok (.iaload, 1) := by decide +kernel
theorem dL_law_1097 : decode cL_law 1097 = .ok (.aload_n 3, 1) := by decide +kernel
theorem dL_law_1098 : decode cL_law 1098 = .ok (.invokestatic 174, 3) := by decide +kernel
theorem dL_law_1101 : decode cL_law 1101 = .ok (.istore 6, 2) := by decide +kernel
theorem dL_law_1103 : decode cL_law 1103 = .ok (.aload_n 2, 1) := by decide +kernel
theorem dL_law_1104 : decode cL_law 1104 = .ok (.aload_n 0, 1) := by decide +kernel
theorem dL_law_1105 : decode cL_law 1105 = .ok (.iload 5, 2) := by decide +kernel
theorem dL_law_1107 : decode cL_law 1107 = .ok (.iconst 1, 1) := by decide +kernel
theorem dL_law_1108 : decode cL_law 1108 = .ok (.iadd, 1) := by decide +kernel
theorem dL_law_1109 : decode cL_law 1109 = .ok (.iaload, 1) := by decide +kernel
theorem dL_law_1110 : decode cL_law 1110 = .ok (.aload_n 0, 1) := by decide +kernel
theorem dL_law_1111 : decode cL_law 1111 = .ok (.iload 5, 2) := by decide +kernel
theorem dL_law_1113 : decode cL_law 1113 = .ok (.iconst 2, 1) := by decide +kernel
theorem dL_law_1114 : decode cL_law 1114 = .ok (.iadd, 1) := by decide +kernel
theorem dL_law_1115 : decode cL_law 1115 = .ok (.iaload, 1) := by decide +kernel
theorem dL_law_1116 : decode cL_law 1116 = .ok (.aload_n 0, 1) := by decide +kernel
theorem dL_law_1117 : decode cL_law 1117 = .ok (.iload 5, 2) := by decide +kernel
theorem dL_law_1119 : decode cL_law 1119 = .ok (.iconst 3, 1) := by decide +kernel
theorem dL_law_1120 : decode cL_law 1120 = .ok (.iadd, 1) := by decide +kernel
theorem dL_law_1121 : decode cL_law 1121 = .ok (.iaload, 1) := by decide +kernel
theorem dL_law_1122 : decode cL_law 1122 = .ok (.invokevirtual 176, 3) := by decide +kernel
theorem dL_law_1125 : decode cL_law 1125 = .ok (.istore 7, 2) := by decide +kernel
theorem dL_law_1127 : decode cL_law 1127 = .ok (.aload_n 2, 1) := by decide +kernel
theorem dL_law_1128 : decode cL_law 1128 = .ok (.invokevirtual 134, 3) := by decide +kernel
theorem dL_law_1131 : decode cL_law 1131 = .ok (.iload 6, 2) := by decide +kernel
theorem dL_law_1133 : decode cL_law 1133 = .ok (.if_icmp .eq 5, 3) := by decide +kernel
theorem dL_law_1138 : decode cL_law 1138 = .ok (.iload 6, 2) := by decide +kernel
theorem dL_law_1140 : decode cL_law 1140 = .ok (.ifCond .ne 22, 3) := by decide +kernel
theorem dL_law_1162 : decode cL_law 1162 = .ok (.goto 1335, 3) := by decide +kernel
theorem dL_law_1165 : decode cL_law 1165 = .ok (.aload_n 1, 1) := by decide +kernel
theorem dL_law_1166 : decode cL_law 1166 = .ok (.aload_n 0, 1) := by decide +kernel
theorem dL_law_1167 : decode cL_law 1167 = .ok (.iload 5, 2) := by decide +kernel
theorem dL_law_1169 : decode cL_law 1169 = .ok (.iconst 1, 1) := by decide +kernel
theorem dL_law_1170 : decode cL_law 1170 = .ok (.iadd, 1) := by decide +kernel
theorem dL_law_1171 : decode cL_law 1171 = .ok (.iaload, 1) := by decide +kernel
theorem dL_law_1172 : decode cL_law 1172 = .ok (.aload_n 0, 1) := by decide +kernel
theorem dL_law_1173 : decode cL_law 1173 = .ok (.iload 5, 2) := by decide +kernel
theorem dL_law_1175 : decode cL_law 1175 = .ok (.iconst 2, 1) := by decide +kernel
theorem dL_law_1176 : decode cL_law 1176 = .ok (.iadd, 1) := by decide +kernel
theorem dL_law_1177 : decode cL_law 1177 = .ok (.iaload, 1) := by decide +kernel
theorem dL_law_1178 : decode cL_law 1178 = .ok (.aload_n 0, 1) := by decide +kernel
theorem dL_law_1179 : decode cL_law 1179 = .ok (.iload 5, 2) := by decide +kernel
theorem dL_law_1181 : decode cL_law 1181 = .ok (.iconst 3, 1) := by decide +kernel
theorem dL_law_1182 : decode cL_law 1182 = .ok (.iadd, 1) := by decide +kernel
theorem dL_law_1183 : decode cL_law 1183 = .ok (.iaload, 1) := by decide +kernel
theorem dL_law_1184 : decode cL_law 1184 = .ok (.aload_n 3, 1) := by decide +kernel
theorem dL_law_1185 : decode cL_law 1185 = .ok (.invokestatic 177, 3) := by decide +kernel
theorem dL_law_1188 : decode cL_law 1188 = .ok (.istore 6, 2) := by decide +kernel
theorem dL_law_1190 : decode cL_law 1190 = .ok (.aload_n 2, 1) := by decide +kernel
theorem dL_law_1191 : decode cL_law 1191 = .ok (.aload_n 0, 1) := by decide +kernel
theorem dL_law_1192 : decode cL_law 1192 = .ok (.iload 5, 2) := by decide +kernel
theorem dL_law_1194 : decode cL_law 1194 = .ok (.iconst 1, 1) := by decide +kernel
theorem dL_law_1195 : decode cL_law 1195 = .ok (.iadd, 1) := by decide +kernel
theorem dL_law_1196 : decode cL_law 1196 = .ok (.iaload, 1) := by decide +kernel
theorem dL_law_1197 : decode cL_law 1197 = .ok (.aload_n 0, 1) := by decide +kernel
theorem dL_law_1198 : decode cL_law 1198 = .ok (.iload 5, 2) := by decide +kernel
theorem dL_law_1200 : decode cL_law 1200 = .ok (.iconst 2, 1) := by decide +kernel
theorem dL_law_1201 : decode cL_law 1201 = .ok (.iadd, 1) := by decide +kernel
theorem dL_law_1202 : decode cL_law 1202 = .ok (.iaload, 1) := by decide +kernel
theorem dL_law_1203 : decode cL_law 1203 = .ok (.aload_n 0, 1) := by decide +kernel
theorem dL_law_1204 : decode cL_law 1204 = .ok (.iload 5, 2) := by decide +kernel
theorem dL_law_1206 : decode cL_law 1206 = .ok (.iconst 3, 1) := by decide +kernel
theorem dL_law_1207 : decode cL_law 1207 = .ok (.iadd, 1) := by decide +kernel
theorem dL_law_1208 : decode cL_law 1208 = .ok (.iaload, 1) := by decide +kernel
theorem dL_law_1209 : decode cL_law 1209 = .ok (.invokevirtual 179, 3) := by decide +kernel
theorem dL_law_1212 : decode cL_law 1212 = .ok (.istore 7, 2) := by decide +kernel
theorem dL_law_1214 : decode cL_law 1214 = .ok (.aload_n 2, 1) := by decide +kernel
theorem dL_law_1215 : decode cL_law 1215 = .ok (.invokevirtual 134, 3) := by decide +kernel
theorem dL_law_1218 : decode cL_law 1218 = .ok (.iload 6, 2) := by decide +kernel
theorem dL_law_1220 : decode cL_law 1220 = .ok (.if_icmp .eq 5, 3) := by decide +kernel
theorem dL_law_1225 : decode cL_law 1225 = .ok (.iload 6, 2) := by decide +kernel
theorem dL_law_1227 : decode cL_law 1227 = .ok (.ifCond .ne 22, 3) := by decide +kernel
theorem dL_law_1249 : decode cL_law 1249 = .ok (.goto 1248, 3) := by decide +kernel
theorem zupdL {f : Nat → Int64} {i : Nat} {v : Int64} : vp_updL f i v i = v := if_pos rfl
theorem zupdD {f : Nat → UInt64} {i : Nat} {v : UInt64} : vf_upd f i v i = v := if_pos rfl
theorem zcmpL {v : Int64} : lg_cmp v v = 0 := by
  have h : ¬ v > v := fun h => Int64.lt_irrefl h
  rw [lg_cmp, if_neg h, if_pos rfl]
def w_lc_enter : List Cond := .methodLink RL 142 yL_enter :: ([.methodLink RL 142 yL_enter, .static yL_enter, .initialized RL, .methodLink RL 145 yX17_enter, .instanceMethod yX17_enter, .selects RX17 yX17_enter yX17_enter, .initialized RX17, .methodLink RL 134 yX17_thrown, .instanceMethod yX17_thrown, .selects RX17 yX17_thrown yX17_thrown] ++ (zL_enter_ws ++ (zX17_enter_ws ++ (zX17_thrown_ws ++ ([])))))
set_option maxHeartbeats 4000000 in
set_option maxRecDepth 100000 in
theorem w_lc_enter_in : ∀ w ∈ w_lc_enter, w ∈ lw_tbl := by decide +kernel
set_option maxHeartbeats 4000000 in
set_option maxRecDepth 100000 in
/-- the law's call of enter -/
theorem lc_enter {p : Program} {e : Env} {s : State} {m : MethodId} {below : List Frame} {meth : Method} {c : Code} {A : Nat → Prop} {Q : State → Prop} {b : Nat} {xs : Nat → Int32} (l : Launch) (hst : l.stackTraces = false) (D : va_G) (h0 : Nat) (a : Nat → Nat) (a1 a2 cN cE p1 p2 p3 g : Nat) (og : Nat → Option Nat) (LR : List Nat) (cG cI : Nat) (mo b0 b1 b2 b3 dz sa va oL oD cL cD : Nat) (x1 x2 x3 x4 x5 x6 : Int32) (hx : p.tables.exec = Jvm.exec) (hb : c.code = cL_law) (hml : c.maxLocals = 9) (hts : ∀ w ∈ w_lc_enter, w.before #[Value.ref b] s = true) (hown : s.vm.findClass RL = some m.cls) (hX : va_X b 7 xs s s.heap) (hbl : b < s.heap.size) (hA : ∀ q : Nat, s.heap.size ≤ q → A q) (hbA : ¬ A b) (hz : zX A s s.heap) (hm : zMS dz sa va A s s.heap) (hg : ∀ i, i < 8 → ∃ y, og i = some y ∧ y ∈ LR) (e1 : xs (1 : Int32).toNatClampNeg = x1) (e2 : xs (2 : Int32).toNatClampNeg = x2) (e3 : xs (3 : Int32).toNatClampNeg = x3) (e4 : xs (4 : Int32).toNatClampNeg = x4) (e5 : xs (5 : Int32).toNatClampNeg = x5) (e6 : xs (6 : Int32).toNatClampNeg = x6) (kk : ∀ (H : Heap) (locs : List Loc), va_S A s.heap H locs → ∀ ls : Array Slot, lv_has ls 9 [(0, .ref b), (5, .int 0)] → W p l e room_1 s m #[Value.ref b] below meth c H locs 600 8000 Q (F0 m 2497 ls [])) (H : Heap) (locs : List Loc) (ls : Array Slot) (hP : va_P D vwCl ([(h0, .inr (17, zHS a)), ((a 0), .inr (6, [.ref a1, .ref a2, .int 0])), (a1, .inl (cN, 30, .inl (fun _ => 0))), ((a 1), .inl (cE, 5, .inr (.inr (.inr (.inr (fun _ => none)))))), ((a 2), .inr (11, [.ref p1, .ref p2, .ref p3, .int 0, .long 0])), ((a 7), .inr (10, [.ref g, .int 0])), (g, .inl (cG, 8, .inr (.inr (.inr (.inr og))))), (mo, .inr (23, [.int 0, .ref b0, .ref b1, .ref b2, .ref b3, .int 0, .int 0, .long 0])), (b0, .inr (5, [.int 0, .ref dz, .int 0])), (b1, .inr (5, [.int 0, .ref dz, .int 0])), (b2, .inr (5, [.int 0, .ref dz, .int 0])), (b3, .inr (5, [.int 0, .ref dz, .int 0])), (oL, .inl (cL, 1, .inr (.inl (fun _ => 0)))), (oD, .inl (cD, 1, .inr (.inr (.inr (.inl (fun _ => 0))))))] ++ va_pl LR (zrow cI)) H) (hD : va_D A ([(h0, .inr (17, zHS a)), ((a 0), .inr (6, [.ref a1, .ref a2, .int 0])), (a1, .inl (cN, 30, .inl (fun _ => 0))), ((a 1), .inl (cE, 5, .inr (.inr (.inr (.inr (fun _ => none)))))), ((a 2), .inr (11, [.ref p1, .ref p2, .ref p3, .int 0, .long 0])), ((a 7), .inr (10, [.ref g, .int 0])), (g, .inl (cG, 8, .inr (.inr (.inr (.inr og))))), (mo, .inr (23, [.int 0, .ref b0, .ref b1, .ref b2, .ref b3, .int 0, .int 0, .long 0])), (b0, .inr (5, [.int 0, .ref dz, .int 0])), (b1, .inr (5, [.int 0, .ref dz, .int 0])), (b2, .inr (5, [.int 0, .ref dz, .int 0])), (b3, .inr (5, [.int 0, .ref dz, .int 0])), (oL, .inl (cL, 1, .inr (.inl (fun _ => 0)))), (oD, .inl (cD, 1, .inr (.inr (.inr (.inl (fun _ => 0))))))] ++ va_pl LR (zrow cI))) (hK : va_K D vwCl [(cN, .int), (cE, .object "HeatStadium$Event"), (cG, .array .int), (cI, .int), (cL, .long), (cD, .double)] s) (hS : va_S A s.heap H locs) (hl : lv_has ls 9 [(0, .ref b), (1, .ref h0), (2, .ref mo), (3, .ref oL), (4, .ref oD), (5, .int 0)]) : W p l e room_1 s m #[Value.ref b] below meth c H locs 200 3000 Q (F0 m 334 ls []) := by
  refine lv_aload_n hx hb dL_law_334 rfl (lv_at hl 1 rfl) ?_
  refine lv_aload_n hx hb dL_law_335 rfl (lv_at hl 0 rfl) ?_
  refine lv_iload hx hb dL_law_336 (lv_at hl 5 rfl) ?_
  refine lv_iconst (v := 1) hx hb dL_law_338 (by decide) ?_
  refine lv_iadd hx hb dL_law_339 ?_
  refine lv_topi (fun z1 ez1 => ?_)
  obtain rfl : z1 = 1 := ez1.trans (by decide)
  refine va_sld hx hb hX hbl hbA hS (show vp_in 1 7 by unfold vp_in; decide) dL_law_340 ?_
  rw [e1]
  refine lv_aload_n hx hb dL_law_341 rfl (lv_at hl 0 rfl) ?_
  refine lv_iload hx hb dL_law_342 (lv_at hl 5 rfl) ?_
  refine lv_iconst (v := 2) hx hb dL_law_344 (by decide) ?_
  refine lv_iadd hx hb dL_law_345 ?_
  refine lv_topi (fun z2 ez2 => ?_)
  obtain rfl : z2 = 2 := ez2.trans (by decide)
  refine va_sld hx hb hX hbl hbA hS (show vp_in 2 7 by unfold vp_in; decide) dL_law_346 ?_
  rw [e2]
  refine lv_aload_n hx hb dL_law_347 rfl (lv_at hl 0 rfl) ?_
  refine lv_iload hx hb dL_law_348 (lv_at hl 5 rfl) ?_
  refine lv_iconst (v := 3) hx hb dL_law_350 (by decide) ?_
  refine lv_iadd hx hb dL_law_351 ?_
  refine lv_topi (fun z3 ez3 => ?_)
  obtain rfl : z3 = 3 := ez3.trans (by decide)
  refine va_sld hx hb hX hbl hbA hS (show vp_in 3 7 by unfold vp_in; decide) dL_law_352 ?_
  rw [e3]
  refine lv_aload_n hx hb dL_law_353 rfl (lv_at hl 3 rfl) ?_
  have hPc := hP.sub (ws' := [(h0, .inr (17, zHS a))]) [0] rfl
  have hDc := hD.sub (ws' := [(h0, .inr (17, zHS a))]) [0] (by decide) rfl
  have hKc := hK.sub (tys' := []) [] rfl
  have hFc : ∀ q : Nat, H.size ≤ q → A q := fun q h => hA q (Nat.le_trans hS.1 h)
  refine vx_calli (vx_runSX (As := [.ref h0, .int x1, .int x2, .int x3, .ref oL]) (rest := []) ⟨hx, hb, hml, hown, hts⟩ (cl_enter l hst D H.size h0 a x1 x2 x3 oL) (vx_cwSW 5 hts (goodIn_app (goodIn_of _ (by decide +kernel)) (goodIn_sub (fun _ h => List.mem_cons_of_mem _ (List.mem_append_right _ (List.mem_append_left _ h))) zL_enter_ws_good)) rfl rfl rfl (by decide +kernel) ⟨Nat.le_of_ble_eq_true rfl, Nat.le_of_ble_eq_true rfl⟩) ⟨zPre.blind, zPre.mk hPc hKc hDc hz hS (fun q h => hFc q h)⟩ rfl rfl hl.1 rfl (lv_room (Nat.le_of_ble_eq_true rfl)) dL_law_354 ⟨Nat.le_of_ble_eq_true rfl, Nat.le_of_ble_eq_true rfl⟩) hS (fun q _ h => hFc q h) (fun q h => hFc q h) (fun q _ h => hFc q h) (fun E9 ce q9 u t H1 locs ht9 hvm hpx hBX hz1 hk1 hS hcell hv9 hcl => ?_) (fun r9 u t H1 locs ht9 hvm hw hB hz1 hk1 hS => ?_)
  · exact False.elim hpx
  refine W.widen (k := 201) (n := 3006) (by omega) (by omega) ?_
  have hP := zKeep hP hk1
  generalize H1 = H at hP hS ⊢
  have hP : va_P D vwCl ([(h0, .inr (17, zHS a)), ((a 0), .inr (6, [.ref a1, .ref a2, .int 0])), (a1, .inl (cN, 30, .inl (fun _ => 0))), ((a 1), .inl (cE, 5, .inr (.inr (.inr (.inr (fun _ => none)))))), ((a 2), .inr (11, [.ref p1, .ref p2, .ref p3, .int 0, .long 0])), ((a 7), .inr (10, [.ref g, .int 0])), (g, .inl (cG, 8, .inr (.inr (.inr (.inr og))))), (mo, .inr (23, [.int 0, .ref b0, .ref b1, .ref b2, .ref b3, .int 0, .int 0, .long 0])), (b0, .inr (5, [.int 0, .ref dz, .int 0])), (b1, .inr (5, [.int 0, .ref dz, .int 0])), (b2, .inr (5, [.int 0, .ref dz, .int 0])), (b3, .inr (5, [.int 0, .ref dz, .int 0])), (oL, .inl (cL, 1, .inr (.inl (fun _ => 0)))), (oD, .inl (cD, 1, .inr (.inr (.inr (.inl (fun _ => 0))))))] ++ va_pl LR (zrow cI)) H := hP
  subst hw
  refine lv_istore (lv' := [(6, .int 1), (0, .ref b), (1, .ref h0), (2, .ref mo), (3, .ref oL), (4, .ref oD), (5, .int 0)]) hx hb dL_law_357 hl (by decide) rfl (fun ls hl => ?_)
  refine lv_aload_n hx hb dL_law_359 rfl (lv_at hl 3 rfl) ?_
  refine lv_aload_n hx hb dL_law_360 rfl (lv_at hl 1 rfl) ?_
  refine lv_iload hx hb dL_law_361 (lv_at hl 6 rfl) ?_
  refine lv_iconst (v := 1) hx hb dL_law_363 (by decide) ?_
  refine lv_iadd hx hb dL_law_364 ?_
  refine lv_topi (fun z4 ez4 => ?_)
  obtain rfl : z4 = 1 := ez4.trans (by decide)
  refine va_sld hx hb hX hbl hbA hS (show vp_in 1 7 by unfold vp_in; decide) dL_law_365 ?_
  rw [e1]
  refine lv_aload_n hx hb dL_law_366 rfl (lv_at hl 1 rfl) ?_
  refine lv_iload hx hb dL_law_367 (lv_at hl 6 rfl) ?_
  refine lv_iconst (v := 2) hx hb dL_law_369 (by decide) ?_
  refine lv_iadd hx hb dL_law_370 ?_
  refine lv_topi (fun z5 ez5 => ?_)
  obtain rfl : z5 = 2 := ez5.trans (by decide)
  refine va_sld hx hb hX hbl hbA hS (show vp_in 2 7 by unfold vp_in; decide) dL_law_371 ?_
  rw [e2]
  refine lv_aload_n hx hb dL_law_372 rfl (lv_at hl 1 rfl) ?_
  refine lv_iload hx hb dL_law_373 (lv_at hl 6 rfl) ?_
  refine lv_iconst (v := 3) hx hb dL_law_375 (by decide) ?_
  refine lv_iadd hx hb dL_law_376 ?_
  refine lv_topi (fun z6 ez6 => ?_)
  obtain rfl : z6 = 3 := ez6.trans (by decide)
  refine va_sld hx hb hX hbl hbA hS (show vp_in 3 7 by unfold vp_in; decide) dL_law_377 ?_
  rw [e3]
  have hPc := hP.sub (ws' := [(mo, .inr (23, [.int 0, .ref b0, .ref b1, .ref b2, .ref b3, .int 0, .int 0, .long 0])), (b2, .inr (5, [.int 0, .ref dz, .int 0]))]) [7, 10] rfl
  have hDc := hD.sub (ws' := [(mo, .inr (23, [.int 0, .ref b0, .ref b1, .ref b2, .ref b3, .int 0, .int 0, .long 0])), (b2, .inr (5, [.int 0, .ref dz, .int 0]))]) [7, 10] (by decide) rfl
  have hKc := hK.sub (tys' := []) [] rfl
  have hFc := va_free (wc := [(mo, .inr (23, [.int 0, .ref b0, .ref b1, .ref b2, .ref b3, .int 0, .int 0, .long 0])), (b2, .inr (5, [.int 0, .ref dz, .int 0]))]) hD hS hA [7, 10] rfl
  refine va_calli (va_runV (As := [.int x1, .int x2, .int x3]) (rest := []) ⟨hx, hb, hml, hown, hts⟩ (cm_enter l hst D H.size mo b0 b1 b2 b3 dz 0 x1 x2 x3) (cwV 3 hts (goodIn_app (goodIn_of _ (by decide +kernel)) (goodIn_sub (fun _ h => List.mem_cons_of_mem _ (List.mem_append_right _ (List.mem_append_right _ (List.mem_append_left _ h)))) zX17_enter_ws_good)) rfl rfl rfl (by decide +kernel) ⟨Nat.le_of_ble_eq_true rfl, Nat.le_of_ble_eq_true rfl⟩) ⟨zPre.blind, va_recv hKc hPc (ci := 23) (q0 := 0) rfl rfl, zPre.mk hPc hKc hDc hz hS (fun q h => hFc q h)⟩ rfl rfl hl.1 rfl (lv_room (Nat.le_of_ble_eq_true rfl)) dL_law_378 ⟨Nat.le_of_ble_eq_true rfl, Nat.le_of_ble_eq_true rfl⟩) hS (fun q _ h => hFc q h) (fun q h => hFc q h) (fun r9 u t H1 locs ht9 hvm hw hB hz1 hk1 hS => ?_)
  refine W.widen (k := 201) (n := 3006) (by omega) (by omega) ?_
  obtain ⟨hP1, hK1, hD1⟩ := hB
  rw [ht9] at hP1
  have hK1 := va_K.moved hvm.symm hK1
  obtain ⟨hP, hD⟩ := va_joinQ (wr := [(h0, .inr (17, zHS a)), ((a 0), .inr (6, [.ref a1, .ref a2, .int 0])), (a1, .inl (cN, 30, .inl (fun _ => 0))), ((a 1), .inl (cE, 5, .inr (.inr (.inr (.inr (fun _ => none)))))), ((a 2), .inr (11, [.ref p1, .ref p2, .ref p3, .int 0, .long 0])), ((a 7), .inr (10, [.ref g, .int 0])), (g, .inl (cG, 8, .inr (.inr (.inr (.inr og))))), (b0, .inr (5, [.int 0, .ref dz, .int 0])), (b1, .inr (5, [.int 0, .ref dz, .int 0])), (b3, .inr (5, [.int 0, .ref dz, .int 0])), (oL, .inl (cL, 1, .inr (.inl (fun _ => 0)))), (oD, .inl (cD, 1, .inr (.inr (.inr (.inl (fun _ => 0))))))]) (w1 := [(mo, .inr (23, [.int 1, .ref b0, .ref b1, .ref b2, .ref b3, .int 0, .int 0, .long 0])), (b2, .inr (5, [.int 0, .ref dz, .int 0]))]) hP hD [7, 10] [0, 1, 2, 3, 4, 5, 6, 8, 9, 11, 12, 13] rfl rfl (by decide) (by decide) hk1 hFc hP1 hD1
  have hK := (hK.sub (tys' := [(cN, .int), (cE, .object "HeatStadium$Event"), (cG, .array .int), (cI, .int), (cL, .long), (cD, .double)]) [0, 1, 2, 3, 4, 5] rfl).app hK1
  generalize H1 = H at hP hS ⊢
  have hP : va_P D vwCl ([(h0, .inr (17, zHS a)), ((a 0), .inr (6, [.ref a1, .ref a2, .int 0])), (a1, .inl (cN, 30, .inl (fun _ => 0))), ((a 1), .inl (cE, 5, .inr (.inr (.inr (.inr (fun _ => none)))))), ((a 2), .inr (11, [.ref p1, .ref p2, .ref p3, .int 0, .long 0])), ((a 7), .inr (10, [.ref g, .int 0])), (g, .inl (cG, 8, .inr (.inr (.inr (.inr og))))), (b0, .inr (5, [.int 0, .ref dz, .int 0])), (b1, .inr (5, [.int 0, .ref dz, .int 0])), (b3, .inr (5, [.int 0, .ref dz, .int 0])), (oL, .inl (cL, 1, .inr (.inl (fun _ => 0)))), (oD, .inl (cD, 1, .inr (.inr (.inr (.inl (fun _ => 0)))))), (mo, .inr (23, [.int 1, .ref b0, .ref b1, .ref b2, .ref b3, .int 0, .int 0, .long 0])), (b2, .inr (5, [.int 0, .ref dz, .int 0]))] ++ va_pl LR (zrow cI)) H := hP
  have hD : va_D A ([(h0, .inr (17, zHS a)), ((a 0), .inr (6, [.ref a1, .ref a2, .int 0])), (a1, .inl (cN, 30, .inl (fun _ => 0))), ((a 1), .inl (cE, 5, .inr (.inr (.inr (.inr (fun _ => none)))))), ((a 2), .inr (11, [.ref p1, .ref p2, .ref p3, .int 0, .long 0])), ((a 7), .inr (10, [.ref g, .int 0])), (g, .inl (cG, 8, .inr (.inr (.inr (.inr og))))), (b0, .inr (5, [.int 0, .ref dz, .int 0])), (b1, .inr (5, [.int 0, .ref dz, .int 0])), (b3, .inr (5, [.int 0, .ref dz, .int 0])), (oL, .inl (cL, 1, .inr (.inl (fun _ => 0)))), (oD, .inl (cD, 1, .inr (.inr (.inr (.inl (fun _ => 0)))))), (mo, .inr (23, [.int 1, .ref b0, .ref b1, .ref b2, .ref b3, .int 0, .int 0, .long 0])), (b2, .inr (5, [.int 0, .ref dz, .int 0]))] ++ va_pl LR (zrow cI)) := hD
  have hK : va_K D vwCl [(cN, .int), (cE, .object "HeatStadium$Event"), (cG, .array .int), (cI, .int), (cL, .long), (cD, .double)] s := hK
  subst hw
  refine lv_istore (lv' := [(7, .int 0), (6, .int 1), (0, .ref b), (1, .ref h0), (2, .ref mo), (3, .ref oL), (4, .ref oD), (5, .int 0)]) hx hb dL_law_381 hl (by decide) rfl (fun ls hl => ?_)
  refine lv_aload_n hx hb dL_law_383 rfl (lv_at hl 4 rfl) ?_
  have hPc := hP.sub (ws' := [(mo, .inr (23, [.int 1, .ref b0, .ref b1, .ref b2, .ref b3, .int 0, .int 0, .long 0]))]) [12] rfl
  have hDc := hD.sub (ws' := [(mo, .inr (23, [.int 1, .ref b0, .ref b1, .ref b2, .ref b3, .int 0, .int 0, .long 0]))]) [12] (by decide) rfl
  have hKc := hK.sub (tys' := []) [] rfl
  have hFc : ∀ q : Nat, H.size ≤ q → A q := fun q h => hA q (Nat.le_trans hS.1 h)
  refine va_calli (va_runV (As := []) (rest := []) ⟨hx, hb, hml, hown, hts⟩ (cm_thrown l hst D H.size mo b0 b1 b2 b3 dz 1) (cwV 0 hts (goodIn_app (goodIn_of _ (by decide +kernel)) (goodIn_sub (fun _ h => List.mem_cons_of_mem _ (List.mem_append_right _ (List.mem_append_right _ (List.mem_append_right _ (List.mem_append_left _ h))))) zX17_thrown_ws_good)) rfl rfl rfl (by decide +kernel) ⟨Nat.le_of_ble_eq_true rfl, Nat.le_of_ble_eq_true rfl⟩) ⟨zPre.blind, va_recv hKc hPc (ci := 23) (q0 := 0) rfl rfl, zPre.mk hPc hKc hDc hz hS (fun q h => hFc q h)⟩ rfl rfl hl.1 rfl (lv_room (Nat.le_of_ble_eq_true rfl)) dL_law_384 ⟨Nat.le_of_ble_eq_true rfl, Nat.le_of_ble_eq_true rfl⟩) hS (fun q _ h => hFc q h) (fun q h => hFc q h) (fun r9 u t H1 locs ht9 hvm hw hB hz1 hk1 hS => ?_)
  refine W.widen (k := 201) (n := 3006) (by omega) (by omega) ?_
  have hP := zKeep hP hk1
  generalize H1 = H at hP hS ⊢
  have hP : va_P D vwCl ([(h0, .inr (17, zHS a)), ((a 0), .inr (6, [.ref a1, .ref a2, .int 0])), (a1, .inl (cN, 30, .inl (fun _ => 0))), ((a 1), .inl (cE, 5, .inr (.inr (.inr (.inr (fun _ => none)))))), ((a 2), .inr (11, [.ref p1, .ref p2, .ref p3, .int 0, .long 0])), ((a 7), .inr (10, [.ref g, .int 0])), (g, .inl (cG, 8, .inr (.inr (.inr (.inr og))))), (b0, .inr (5, [.int 0, .ref dz, .int 0])), (b1, .inr (5, [.int 0, .ref dz, .int 0])), (b3, .inr (5, [.int 0, .ref dz, .int 0])), (oL, .inl (cL, 1, .inr (.inl (fun _ => 0)))), (oD, .inl (cD, 1, .inr (.inr (.inr (.inl (fun _ => 0)))))), (mo, .inr (23, [.int 1, .ref b0, .ref b1, .ref b2, .ref b3, .int 0, .int 0, .long 0])), (b2, .inr (5, [.int 0, .ref dz, .int 0]))] ++ va_pl LR (zrow cI)) H := hP
  subst hw
  refine lv_iload hx hb dL_law_387 (lv_at hl 1 rfl) ?_
  refine lv_icmp_eq (tgt := 394) hx hb dL_law_389 (by decide) (fun _ => ?_) (fun c => absurd (by decide) c)
  refine lv_iload hx hb dL_law_394 (lv_at hl 1 rfl) ?_
  refine lv_if_ne (tgt := 411) hx hb dL_law_396 (by decide) (fun _ => ?_) (fun c => absurd c (by decide))
  refine lv_goto (tgt := 2497) hx hb dL_law_411 (by decide) ?_
  refine W.widen (k := 600) (n := 8000) (by omega) (by omega) ?_
  exact kk H _ hS ls (lv_sub hl [2, 7] rfl)

def w_lc_withdraw : List Cond := .methodLink RL 146 yL_withdraw :: ([.methodLink RL 146 yL_withdraw, .static yL_withdraw, .initialized RL, .methodLink RL 149 yX17_withdraw, .instanceMethod yX17_withdraw, .selects RX17 yX17_withdraw yX17_withdraw, .initialized RX17, .methodLink RL 134 yX17_thrown, .instanceMethod yX17_thrown, .selects RX17 yX17_thrown yX17_thrown] ++ (zL_withdraw_ws ++ (zX17_withdraw_ws ++ (zX17_thrown_ws ++ ([])))))
set_option maxHeartbeats 4000000 in
set_option maxRecDepth 100000 in
theorem w_lc_withdraw_in : ∀ w ∈ w_lc_withdraw, w ∈ lw_tbl := by decide +kernel
set_option maxHeartbeats 4000000 in
set_option maxRecDepth 100000 in
/-- the law's call of withdraw -/
theorem lc_withdraw {p : Program} {e : Env} {s : State} {m : MethodId} {below : List Frame} {meth : Method} {c : Code} {A : Nat → Prop} {Q : State → Prop} {b : Nat} {xs : Nat → Int32} (l : Launch) (hst : l.stackTraces = false) (D : va_G) (h0 : Nat) (a : Nat → Nat) (a1 a2 cN cE p1 p2 p3 g : Nat) (og : Nat → Option Nat) (LR : List Nat) (cG cI : Nat) (mo b0 b1 b2 b3 dz sa va oL oD cL cD : Nat) (x1 x2 x3 x4 x5 x6 : Int32) (hx : p.tables.exec = Jvm.exec) (hb : c.code = cL_law) (hml : c.maxLocals = 9) (hts : ∀ w ∈ w_lc_withdraw, w.before #[Value.ref b] s = true) (hown : s.vm.findClass RL = some m.cls) (hX : va_X b 7 xs s s.heap) (hbl : b < s.heap.size) (hA : ∀ q : Nat, s.heap.size ≤ q → A q) (hbA : ¬ A b) (hz : zX A s s.heap) (hm : zMS dz sa va A s s.heap) (hg : ∀ i, i < 8 → ∃ y, og i = some y ∧ y ∈ LR) (e1 : xs (1 : Int32).toNatClampNeg = x1) (e2 : xs (2 : Int32).toNatClampNeg = x2) (e3 : xs (3 : Int32).toNatClampNeg = x3) (e4 : xs (4 : Int32).toNatClampNeg = x4) (e5 : xs (5 : Int32).toNatClampNeg = x5) (e6 : xs (6 : Int32).toNatClampNeg = x6) (kk : ∀ (H : Heap) (locs : List Loc), va_S A s.heap H locs → ∀ ls : Array Slot, lv_has ls 9 [(0, .ref b), (5, .int 0)] → W p l e room_1 s m #[Value.ref b] below meth c H locs 600 8000 Q (F0 m 2497 ls [])) (H : Heap) (locs : List Loc) (ls : Array Slot) (hP : va_P D vwCl ([(h0, .inr (17, zHS a)), ((a 0), .inr (6, [.ref a1, .ref a2, .int 0])), (a1, .inl (cN, 30, .inl (fun _ => 0))), ((a 1), .inl (cE, 5, .inr (.inr (.inr (.inr (fun _ => none)))))), ((a 2), .inr (11, [.ref p1, .ref p2, .ref p3, .int 0, .long 0])), ((a 7), .inr (10, [.ref g, .int 0])), (g, .inl (cG, 8, .inr (.inr (.inr (.inr og))))), (mo, .inr (23, [.int 0, .ref b0, .ref b1, .ref b2, .ref b3, .int 0, .int 0, .long 0])), (b0, .inr (5, [.int 0, .ref dz, .int 0])), (b1, .inr (5, [.int 0, .ref dz, .int 0])), (b2, .inr (5, [.int 0, .ref dz, .int 0])), (b3, .inr (5, [.int 0, .ref dz, .int 0])), (oL, .inl (cL, 1, .inr (.inl (fun _ => 0)))), (oD, .inl (cD, 1, .inr (.inr (.inr (.inl (fun _ => 0))))))] ++ va_pl LR (zrow cI)) H) (hD : va_D A ([(h0, .inr (17, zHS a)), ((a 0), .inr (6, [.ref a1, .ref a2, .int 0])), (a1, .inl (cN, 30, .inl (fun _ => 0))), ((a 1), .inl (cE, 5, .inr (.inr (.inr (.inr (fun _ => none)))))), ((a 2), .inr (11, [.ref p1, .ref p2, .ref p3, .int 0, .long 0])), ((a 7), .inr (10, [.ref g, .int 0])), (g, .inl (cG, 8, .inr (.inr (.inr (.inr og))))), (mo, .inr (23, [.int 0, .ref b0, .ref b1, .ref b2, .ref b3, .int 0, .int 0, .long 0])), (b0, .inr (5, [.int 0, .ref dz, .int 0])), (b1, .inr (5, [.int 0, .ref dz, .int 0])), (b2, .inr (5, [.int 0, .ref dz, .int 0])), (b3, .inr (5, [.int 0, .ref dz, .int 0])), (oL, .inl (cL, 1, .inr (.inl (fun _ => 0)))), (oD, .inl (cD, 1, .inr (.inr (.inr (.inl (fun _ => 0))))))] ++ va_pl LR (zrow cI))) (hK : va_K D vwCl [(cN, .int), (cE, .object "HeatStadium$Event"), (cG, .array .int), (cI, .int), (cL, .long), (cD, .double)] s) (hS : va_S A s.heap H locs) (hl : lv_has ls 9 [(0, .ref b), (1, .ref h0), (2, .ref mo), (3, .ref oL), (4, .ref oD), (5, .int 0)]) : W p l e room_1 s m #[Value.ref b] below meth c H locs 200 3000 Q (F0 m 414 ls []) := by
  refine lv_aload_n hx hb dL_law_414 rfl (lv_at hl 1 rfl) ?_
  refine lv_aload_n hx hb dL_law_415 rfl (lv_at hl 0 rfl) ?_
  refine lv_iload hx hb dL_law_416 (lv_at hl 5 rfl) ?_
  refine lv_iconst (v := 1) hx hb dL_law_418 (by decide) ?_
  refine lv_iadd hx hb dL_law_419 ?_
  refine lv_topi (fun z1 ez1 => ?_)
  obtain rfl : z1 = 1 := ez1.trans (by decide)
  refine va_sld hx hb hX hbl hbA hS (show vp_in 1 7 by unfold vp_in; decide) dL_law_420 ?_
  rw [e1]
  refine lv_aload_n hx hb dL_law_421 rfl (lv_at hl 0 rfl) ?_
  refine lv_iload hx hb dL_law_422 (lv_at hl 5 rfl) ?_
  refine lv_iconst (v := 2) hx hb dL_law_424 (by decide) ?_
  refine lv_iadd hx hb dL_law_425 ?_
  refine lv_topi (fun z2 ez2 => ?_)
  obtain rfl : z2 = 2 := ez2.trans (by decide)
  refine va_sld hx hb hX hbl hbA hS (show vp_in 2 7 by unfold vp_in; decide) dL_law_426 ?_
  rw [e2]
  refine lv_aload_n hx hb dL_law_427 rfl (lv_at hl 0 rfl) ?_
  refine lv_iload hx hb dL_law_428 (lv_at hl 5 rfl) ?_
  refine lv_iconst (v := 3) hx hb dL_law_430 (by decide) ?_
  refine lv_iadd hx hb dL_law_431 ?_
  refine lv_topi (fun z3 ez3 => ?_)
  obtain rfl : z3 = 3 := ez3.trans (by decide)
  refine va_sld hx hb hX hbl hbA hS (show vp_in 3 7 by unfold vp_in; decide) dL_law_432 ?_
  rw [e3]
  refine lv_if_eq (tgt := 440) hx hb dL_law_433 (by decide) (fun c4 => ?_) (fun c4 => ?_)
  · refine lv_iconst (v := 0) hx hb dL_law_440 (by decide) ?_
    refine lv_aload_n hx hb dL_law_441 rfl (lv_at hl 3 rfl) ?_
    have hPc := hP.sub (ws' := [(h0, .inr (17, zHS a))]) [0] rfl
    have hDc := hD.sub (ws' := [(h0, .inr (17, zHS a))]) [0] (by decide) rfl
    have hKc := hK.sub (tys' := []) [] rfl
    have hFc : ∀ q : Nat, H.size ≤ q → A q := fun q h => hA q (Nat.le_trans hS.1 h)
    refine vx_calli (vx_runSX (As := [.ref h0, .int x1, .int x2, .int 0, .ref oL]) (rest := []) ⟨hx, hb, hml, hown, hts⟩ (cl_withdraw l hst D H.size h0 a x1 x2 0 oL) (vx_cwSW 5 hts (goodIn_app (goodIn_of _ (by decide +kernel)) (goodIn_sub (fun _ h => List.mem_cons_of_mem _ (List.mem_append_right _ (List.mem_append_left _ h))) zL_withdraw_ws_good)) rfl rfl rfl (by decide +kernel) ⟨Nat.le_of_ble_eq_true rfl, Nat.le_of_ble_eq_true rfl⟩) ⟨zPre.blind, zPre.mk hPc hKc hDc hz hS (fun q h => hFc q h)⟩ rfl rfl hl.1 rfl (lv_room (Nat.le_of_ble_eq_true rfl)) dL_law_442 ⟨Nat.le_of_ble_eq_true rfl, Nat.le_of_ble_eq_true rfl⟩) hS (fun q _ h => hFc q h) (fun q h => hFc q h) (fun q _ h => hFc q h) (fun E9 ce q9 u t H1 locs ht9 hvm hpx hBX hz1 hk1 hS hcell hv9 hcl => ?_) (fun r9 u t H1 locs ht9 hvm hw hB hz1 hk1 hS => ?_)
    · exact False.elim hpx
    refine W.widen (k := 201) (n := 3006) (by omega) (by omega) ?_
    have hP := zKeep hP hk1
    generalize H1 = H at hP hS ⊢
    have hP : va_P D vwCl ([(h0, .inr (17, zHS a)), ((a 0), .inr (6, [.ref a1, .ref a2, .int 0])), (a1, .inl (cN, 30, .inl (fun _ => 0))), ((a 1), .inl (cE, 5, .inr (.inr (.inr (.inr (fun _ => none)))))), ((a 2), .inr (11, [.ref p1, .ref p2, .ref p3, .int 0, .long 0])), ((a 7), .inr (10, [.ref g, .int 0])), (g, .inl (cG, 8, .inr (.inr (.inr (.inr og))))), (mo, .inr (23, [.int 0, .ref b0, .ref b1, .ref b2, .ref b3, .int 0, .int 0, .long 0])), (b0, .inr (5, [.int 0, .ref dz, .int 0])), (b1, .inr (5, [.int 0, .ref dz, .int 0])), (b2, .inr (5, [.int 0, .ref dz, .int 0])), (b3, .inr (5, [.int 0, .ref dz, .int 0])), (oL, .inl (cL, 1, .inr (.inl (fun _ => 0)))), (oD, .inl (cD, 1, .inr (.inr (.inr (.inl (fun _ => 0))))))] ++ va_pl LR (zrow cI)) H := hP
    subst hw
    refine lv_istore (lv' := [(6, .int 1), (0, .ref b), (1, .ref h0), (2, .ref mo), (3, .ref oL), (4, .ref oD), (5, .int 0)]) hx hb dL_law_445 hl (by decide) rfl (fun ls hl => ?_)
    refine lv_aload_n hx hb dL_law_447 rfl (lv_at hl 3 rfl) ?_
    refine lv_aload_n hx hb dL_law_448 rfl (lv_at hl 1 rfl) ?_
    refine lv_iload hx hb dL_law_449 (lv_at hl 6 rfl) ?_
    refine lv_iconst (v := 1) hx hb dL_law_451 (by decide) ?_
    refine lv_iadd hx hb dL_law_452 ?_
    refine lv_topi (fun z5 ez5 => ?_)
    obtain rfl : z5 = 1 := ez5.trans (by decide)
    refine va_sld hx hb hX hbl hbA hS (show vp_in 1 7 by unfold vp_in; decide) dL_law_453 ?_
    rw [e1]
    refine lv_aload_n hx hb dL_law_454 rfl (lv_at hl 1 rfl) ?_
    refine lv_iload hx hb dL_law_455 (lv_at hl 6 rfl) ?_
    refine lv_iconst (v := 2) hx hb dL_law_457 (by decide) ?_
    refine lv_iadd hx hb dL_law_458 ?_
    refine lv_topi (fun z6 ez6 => ?_)
    obtain rfl : z6 = 2 := ez6.trans (by decide)
    refine va_sld hx hb hX hbl hbA hS (show vp_in 2 7 by unfold vp_in; decide) dL_law_459 ?_
    rw [e2]
    refine lv_aload_n hx hb dL_law_460 rfl (lv_at hl 1 rfl) ?_
    refine lv_iload hx hb dL_law_461 (lv_at hl 6 rfl) ?_
    refine lv_iconst (v := 3) hx hb dL_law_463 (by decide) ?_
    refine lv_iadd hx hb dL_law_464 ?_
    refine lv_topi (fun z7 ez7 => ?_)
    obtain rfl : z7 = 3 := ez7.trans (by decide)
    refine va_sld hx hb hX hbl hbA hS (show vp_in 3 7 by unfold vp_in; decide) dL_law_465 ?_
    rw [e3]
    refine lv_if_eq (tgt := 473) hx hb dL_law_466 (by decide) (fun _ => ?_) (fun c9 => absurd c4 c9)
    refine lv_iconst (v := 0) hx hb dL_law_473 (by decide) ?_
    have hPc := hP.sub (ws' := [(mo, .inr (23, [.int 0, .ref b0, .ref b1, .ref b2, .ref b3, .int 0, .int 0, .long 0])), (b2, .inr (5, [.int 0, .ref dz, .int 0]))]) [7, 10] rfl
    have hDc := hD.sub (ws' := [(mo, .inr (23, [.int 0, .ref b0, .ref b1, .ref b2, .ref b3, .int 0, .int 0, .long 0])), (b2, .inr (5, [.int 0, .ref dz, .int 0]))]) [7, 10] (by decide) rfl
    have hKc := hK.sub (tys' := []) [] rfl
    have hFc := va_free (wc := [(mo, .inr (23, [.int 0, .ref b0, .ref b1, .ref b2, .ref b3, .int 0, .int 0, .long 0])), (b2, .inr (5, [.int 0, .ref dz, .int 0]))]) hD hS hA [7, 10] rfl
    refine va_calli (va_runV (As := [.int x1, .int x2, .int 0]) (rest := []) ⟨hx, hb, hml, hown, hts⟩ (cm_withdraw l hst D H.size mo b0 b1 b2 b3 dz 0 x1 x2 0) (cwV 3 hts (goodIn_app (goodIn_of _ (by decide +kernel)) (goodIn_sub (fun _ h => List.mem_cons_of_mem _ (List.mem_append_right _ (List.mem_append_right _ (List.mem_append_left _ h)))) zX17_withdraw_ws_good)) rfl rfl rfl (by decide +kernel) ⟨Nat.le_of_ble_eq_true rfl, Nat.le_of_ble_eq_true rfl⟩) ⟨zPre.blind, va_recv hKc hPc (ci := 23) (q0 := 0) rfl rfl, zPre.mk hPc hKc hDc hz hS (fun q h => hFc q h)⟩ rfl rfl hl.1 rfl (lv_room (Nat.le_of_ble_eq_true rfl)) dL_law_474 ⟨Nat.le_of_ble_eq_true rfl, Nat.le_of_ble_eq_true rfl⟩) hS (fun q _ h => hFc q h) (fun q h => hFc q h) (fun r9 u t H1 locs ht9 hvm hw hB hz1 hk1 hS => ?_)
    refine W.widen (k := 201) (n := 3006) (by omega) (by omega) ?_
    obtain ⟨hP1, hK1, hD1⟩ := hB
    rw [ht9] at hP1
    have hK1 := va_K.moved hvm.symm hK1
    obtain ⟨hP, hD⟩ := va_joinQ (wr := [(h0, .inr (17, zHS a)), ((a 0), .inr (6, [.ref a1, .ref a2, .int 0])), (a1, .inl (cN, 30, .inl (fun _ => 0))), ((a 1), .inl (cE, 5, .inr (.inr (.inr (.inr (fun _ => none)))))), ((a 2), .inr (11, [.ref p1, .ref p2, .ref p3, .int 0, .long 0])), ((a 7), .inr (10, [.ref g, .int 0])), (g, .inl (cG, 8, .inr (.inr (.inr (.inr og))))), (b0, .inr (5, [.int 0, .ref dz, .int 0])), (b1, .inr (5, [.int 0, .ref dz, .int 0])), (b3, .inr (5, [.int 0, .ref dz, .int 0])), (oL, .inl (cL, 1, .inr (.inl (fun _ => 0)))), (oD, .inl (cD, 1, .inr (.inr (.inr (.inl (fun _ => 0))))))]) (w1 := [(mo, .inr (23, [.int 1, .ref b0, .ref b1, .ref b2, .ref b3, .int 0, .int 0, .long 0])), (b2, .inr (5, [.int 0, .ref dz, .int 0]))]) hP hD [7, 10] [0, 1, 2, 3, 4, 5, 6, 8, 9, 11, 12, 13] rfl rfl (by decide) (by decide) hk1 hFc hP1 hD1
    have hK := (hK.sub (tys' := [(cN, .int), (cE, .object "HeatStadium$Event"), (cG, .array .int), (cI, .int), (cL, .long), (cD, .double)]) [0, 1, 2, 3, 4, 5] rfl).app hK1
    generalize H1 = H at hP hS ⊢
    have hP : va_P D vwCl ([(h0, .inr (17, zHS a)), ((a 0), .inr (6, [.ref a1, .ref a2, .int 0])), (a1, .inl (cN, 30, .inl (fun _ => 0))), ((a 1), .inl (cE, 5, .inr (.inr (.inr (.inr (fun _ => none)))))), ((a 2), .inr (11, [.ref p1, .ref p2, .ref p3, .int 0, .long 0])), ((a 7), .inr (10, [.ref g, .int 0])), (g, .inl (cG, 8, .inr (.inr (.inr (.inr og))))), (b0, .inr (5, [.int 0, .ref dz, .int 0])), (b1, .inr (5, [.int 0, .ref dz, .int 0])), (b3, .inr (5, [.int 0, .ref dz, .int 0])), (oL, .inl (cL, 1, .inr (.inl (fun _ => 0)))), (oD, .inl (cD, 1, .inr (.inr (.inr (.inl (fun _ => 0)))))), (mo, .inr (23, [.int 1, .ref b0, .ref b1, .ref b2, .ref b3, .int 0, .int 0, .long 0])), (b2, .inr (5, [.int 0, .ref dz, .int 0]))] ++ va_pl LR (zrow cI)) H := hP
    have hD : va_D A ([(h0, .inr (17, zHS a)), ((a 0), .inr (6, [.ref a1, .ref a2, .int 0])), (a1, .inl (cN, 30, .inl (fun _ => 0))), ((a 1), .inl (cE, 5, .inr (.inr (.inr (.inr (fun _ => none)))))), ((a 2), .inr (11, [.ref p1, .ref p2, .ref p3, .int 0, .long 0])), ((a 7), .inr (10, [.ref g, .int 0])), (g, .inl (cG, 8, .inr (.inr (.inr (.inr og))))), (b0, .inr (5, [.int 0, .ref dz, .int 0])), (b1, .inr (5, [.int 0, .ref dz, .int 0])), (b3, .inr (5, [.int 0, .ref dz, .int 0])), (oL, .inl (cL, 1, .inr (.inl (fun _ => 0)))), (oD, .inl (cD, 1, .inr (.inr (.inr (.inl (fun _ => 0)))))), (mo, .inr (23, [.int 1, .ref b0, .ref b1, .ref b2, .ref b3, .int 0, .int 0, .long 0])), (b2, .inr (5, [.int 0, .ref dz, .int 0]))] ++ va_pl LR (zrow cI)) := hD
    have hK : va_K D vwCl [(cN, .int), (cE, .object "HeatStadium$Event"), (cG, .array .int), (cI, .int), (cL, .long), (cD, .double)] s := hK
    subst hw
    refine lv_istore (lv' := [(7, .int 0), (6, .int 1), (0, .ref b), (1, .ref h0), (2, .ref mo), (3, .ref oL), (4, .ref oD), (5, .int 0)]) hx hb dL_law_477 hl (by decide) rfl (fun ls hl => ?_)
    refine lv_aload_n hx hb dL_law_479 rfl (lv_at hl 4 rfl) ?_
    have hPc := hP.sub (ws' := [(mo, .inr (23, [.int 1, .ref b0, .ref b1, .ref b2, .ref b3, .int 0, .int 0, .long 0]))]) [12] rfl
    have hDc := hD.sub (ws' := [(mo, .inr (23, [.int 1, .ref b0, .ref b1, .ref b2, .ref b3, .int 0, .int 0, .long 0]))]) [12] (by decide) rfl
    have hKc := hK.sub (tys' := []) [] rfl
    have hFc : ∀ q : Nat, H.size ≤ q → A q := fun q h => hA q (Nat.le_trans hS.1 h)
    refine va_calli (va_runV (As := []) (rest := []) ⟨hx, hb, hml, hown, hts⟩ (cm_thrown l hst D H.size mo b0 b1 b2 b3 dz 1) (cwV 0 hts (goodIn_app (goodIn_of _ (by decide +kernel)) (goodIn_sub (fun _ h => List.mem_cons_of_mem _ (List.mem_append_right _ (List.mem_append_right _ (List.mem_append_right _ (List.mem_append_left _ h))))) zX17_thrown_ws_good)) rfl rfl rfl (by decide +kernel) ⟨Nat.le_of_ble_eq_true rfl, Nat.le_of_ble_eq_true rfl⟩) ⟨zPre.blind, va_recv hKc hPc (ci := 23) (q0 := 0) rfl rfl, zPre.mk hPc hKc hDc hz hS (fun q h => hFc q h)⟩ rfl rfl hl.1 rfl (lv_room (Nat.le_of_ble_eq_true rfl)) dL_law_480 ⟨Nat.le_of_ble_eq_true rfl, Nat.le_of_ble_eq_true rfl⟩) hS (fun q _ h => hFc q h) (fun q h => hFc q h) (fun r9 u t H1 locs ht9 hvm hw hB hz1 hk1 hS => ?_)
    refine W.widen (k := 201) (n := 3006) (by omega) (by omega) ?_
    have hP := zKeep hP hk1
    generalize H1 = H at hP hS ⊢
    have hP : va_P D vwCl ([(h0, .inr (17, zHS a)), ((a 0), .inr (6, [.ref a1, .ref a2, .int 0])), (a1, .inl (cN, 30, .inl (fun _ => 0))), ((a 1), .inl (cE, 5, .inr (.inr (.inr (.inr (fun _ => none)))))), ((a 2), .inr (11, [.ref p1, .ref p2, .ref p3, .int 0, .long 0])), ((a 7), .inr (10, [.ref g, .int 0])), (g, .inl (cG, 8, .inr (.inr (.inr (.inr og))))), (b0, .inr (5, [.int 0, .ref dz, .int 0])), (b1, .inr (5, [.int 0, .ref dz, .int 0])), (b3, .inr (5, [.int 0, .ref dz, .int 0])), (oL, .inl (cL, 1, .inr (.inl (fun _ => 0)))), (oD, .inl (cD, 1, .inr (.inr (.inr (.inl (fun _ => 0)))))), (mo, .inr (23, [.int 1, .ref b0, .ref b1, .ref b2, .ref b3, .int 0, .int 0, .long 0])), (b2, .inr (5, [.int 0, .ref dz, .int 0]))] ++ va_pl LR (zrow cI)) H := hP
    subst hw
    refine lv_iload hx hb dL_law_483 (lv_at hl 1 rfl) ?_
    refine lv_icmp_eq (tgt := 490) hx hb dL_law_485 (by decide) (fun _ => ?_) (fun c => absurd (by decide) c)
    refine lv_iload hx hb dL_law_490 (lv_at hl 1 rfl) ?_
    refine lv_if_ne (tgt := 514) hx hb dL_law_492 (by decide) (fun _ => ?_) (fun c => absurd c (by decide))
    refine lv_goto (tgt := 2497) hx hb dL_law_514 (by decide) ?_
    refine W.widen (k := 600) (n := 8000) (by omega) (by omega) ?_
    exact kk H _ hS ls (lv_sub hl [2, 7] rfl)
  · refine lv_iconst (v := 1) hx hb dL_law_436 (by decide) ?_
    refine lv_goto (tgt := 441) hx hb dL_law_437 (by decide) ?_
    refine lv_aload_n hx hb dL_law_441 rfl (lv_at hl 3 rfl) ?_
    have hPc := hP.sub (ws' := [(h0, .inr (17, zHS a))]) [0] rfl
    have hDc := hD.sub (ws' := [(h0, .inr (17, zHS a))]) [0] (by decide) rfl
    have hKc := hK.sub (tys' := []) [] rfl
    have hFc : ∀ q : Nat, H.size ≤ q → A q := fun q h => hA q (Nat.le_trans hS.1 h)
    refine vx_calli (vx_runSX (As := [.ref h0, .int x1, .int x2, .int 1, .ref oL]) (rest := []) ⟨hx, hb, hml, hown, hts⟩ (cl_withdraw l hst D H.size h0 a x1 x2 1 oL) (vx_cwSW 5 hts (goodIn_app (goodIn_of _ (by decide +kernel)) (goodIn_sub (fun _ h => List.mem_cons_of_mem _ (List.mem_append_right _ (List.mem_append_left _ h))) zL_withdraw_ws_good)) rfl rfl rfl (by decide +kernel) ⟨Nat.le_of_ble_eq_true rfl, Nat.le_of_ble_eq_true rfl⟩) ⟨zPre.blind, zPre.mk hPc hKc hDc hz hS (fun q h => hFc q h)⟩ rfl rfl hl.1 rfl (lv_room (Nat.le_of_ble_eq_true rfl)) dL_law_442 ⟨Nat.le_of_ble_eq_true rfl, Nat.le_of_ble_eq_true rfl⟩) hS (fun q _ h => hFc q h) (fun q h => hFc q h) (fun q _ h => hFc q h) (fun E9 ce q9 u t H1 locs ht9 hvm hpx hBX hz1 hk1 hS hcell hv9 hcl => ?_) (fun r9 u t H1 locs ht9 hvm hw hB hz1 hk1 hS => ?_)
    · exact False.elim hpx
    refine W.widen (k := 201) (n := 3006) (by omega) (by omega) ?_
    have hP := zKeep hP hk1
    generalize H1 = H at hP hS ⊢
    have hP : va_P D vwCl ([(h0, .inr (17, zHS a)), ((a 0), .inr (6, [.ref a1, .ref a2, .int 0])), (a1, .inl (cN, 30, .inl (fun _ => 0))), ((a 1), .inl (cE, 5, .inr (.inr (.inr (.inr (fun _ => none)))))), ((a 2), .inr (11, [.ref p1, .ref p2, .ref p3, .int 0, .long 0])), ((a 7), .inr (10, [.ref g, .int 0])), (g, .inl (cG, 8, .inr (.inr (.inr (.inr og))))), (mo, .inr (23, [.int 0, .ref b0, .ref b1, .ref b2, .ref b3, .int 0, .int 0, .long 0])), (b0, .inr (5, [.int 0, .ref dz, .int 0])), (b1, .inr (5, [.int 0, .ref dz, .int 0])), (b2, .inr (5, [.int 0, .ref dz, .int 0])), (b3, .inr (5, [.int 0, .ref dz, .int 0])), (oL, .inl (cL, 1, .inr (.inl (fun _ => 0)))), (oD, .inl (cD, 1, .inr (.inr (.inr (.inl (fun _ => 0))))))] ++ va_pl LR (zrow cI)) H := hP
    subst hw
    refine lv_istore (lv' := [(6, .int 1), (0, .ref b), (1, .ref h0), (2, .ref mo), (3, .ref oL), (4, .ref oD), (5, .int 0)]) hx hb dL_law_445 hl (by decide) rfl (fun ls hl => ?_)
    refine lv_aload_n hx hb dL_law_447 rfl (lv_at hl 3 rfl) ?_
    refine lv_aload_n hx hb dL_law_448 rfl (lv_at hl 1 rfl) ?_
    refine lv_iload hx hb dL_law_449 (lv_at hl 6 rfl) ?_
    refine lv_iconst (v := 1) hx hb dL_law_451 (by decide) ?_
    refine lv_iadd hx hb dL_law_452 ?_
    refine lv_topi (fun z8 ez8 => ?_)
    obtain rfl : z8 = 1 := ez8.trans (by decide)
    refine va_sld hx hb hX hbl hbA hS (show vp_in 1 7 by unfold vp_in; decide) dL_law_453 ?_
    rw [e1]
    refine lv_aload_n hx hb dL_law_454 rfl (lv_at hl 1 rfl) ?_
    refine lv_iload hx hb dL_law_455 (lv_at hl 6 rfl) ?_
    refine lv_iconst (v := 2) hx hb dL_law_457 (by decide) ?_
    refine lv_iadd hx hb dL_law_458 ?_
    refine lv_topi (fun z9 ez9 => ?_)
    obtain rfl : z9 = 2 := ez9.trans (by decide)
    refine va_sld hx hb hX hbl hbA hS (show vp_in 2 7 by unfold vp_in; decide) dL_law_459 ?_
    rw [e2]
    refine lv_aload_n hx hb dL_law_460 rfl (lv_at hl 1 rfl) ?_
    refine lv_iload hx hb dL_law_461 (lv_at hl 6 rfl) ?_
    refine lv_iconst (v := 3) hx hb dL_law_463 (by decide) ?_
    refine lv_iadd hx hb dL_law_464 ?_
    refine lv_topi (fun z10 ez10 => ?_)
    obtain rfl : z10 = 3 := ez10.trans (by decide)
    refine va_sld hx hb hX hbl hbA hS (show vp_in 3 7 by unfold vp_in; decide) dL_law_465 ?_
    rw [e3]
    refine lv_if_eq (tgt := 473) hx hb dL_law_466 (by decide) (fun c9 => absurd c9 c4) (fun _ => ?_)
    refine lv_iconst (v := 1) hx hb dL_law_469 (by decide) ?_
    refine lv_goto (tgt := 474) hx hb dL_law_470 (by decide) ?_
    have hPc := hP.sub (ws' := [(mo, .inr (23, [.int 0, .ref b0, .ref b1, .ref b2, .ref b3, .int 0, .int 0, .long 0])), (b2, .inr (5, [.int 0, .ref dz, .int 0]))]) [7, 10] rfl
    have hDc := hD.sub (ws' := [(mo, .inr (23, [.int 0, .ref b0, .ref b1, .ref b2, .ref b3, .int 0, .int 0, .long 0])), (b2, .inr (5, [.int 0, .ref dz, .int 0]))]) [7, 10] (by decide) rfl
    have hKc := hK.sub (tys' := []) [] rfl
    have hFc := va_free (wc := [(mo, .inr (23, [.int 0, .ref b0, .ref b1, .ref b2, .ref b3, .int 0, .int 0, .long 0])), (b2, .inr (5, [.int 0, .ref dz, .int 0]))]) hD hS hA [7, 10] rfl
    refine va_calli (va_runV (As := [.int x1, .int x2, .int 1]) (rest := []) ⟨hx, hb, hml, hown, hts⟩ (cm_withdraw l hst D H.size mo b0 b1 b2 b3 dz 0 x1 x2 1) (cwV 3 hts (goodIn_app (goodIn_of _ (by decide +kernel)) (goodIn_sub (fun _ h => List.mem_cons_of_mem _ (List.mem_append_right _ (List.mem_append_right _ (List.mem_append_left _ h)))) zX17_withdraw_ws_good)) rfl rfl rfl (by decide +kernel) ⟨Nat.le_of_ble_eq_true rfl, Nat.le_of_ble_eq_true rfl⟩) ⟨zPre.blind, va_recv hKc hPc (ci := 23) (q0 := 0) rfl rfl, zPre.mk hPc hKc hDc hz hS (fun q h => hFc q h)⟩ rfl rfl hl.1 rfl (lv_room (Nat.le_of_ble_eq_true rfl)) dL_law_474 ⟨Nat.le_of_ble_eq_true rfl, Nat.le_of_ble_eq_true rfl⟩) hS (fun q _ h => hFc q h) (fun q h => hFc q h) (fun r9 u t H1 locs ht9 hvm hw hB hz1 hk1 hS => ?_)
    refine W.widen (k := 201) (n := 3006) (by omega) (by omega) ?_
    obtain ⟨hP1, hK1, hD1⟩ := hB
    rw [ht9] at hP1
    have hK1 := va_K.moved hvm.symm hK1
    obtain ⟨hP, hD⟩ := va_joinQ (wr := [(h0, .inr (17, zHS a)), ((a 0), .inr (6, [.ref a1, .ref a2, .int 0])), (a1, .inl (cN, 30, .inl (fun _ => 0))), ((a 1), .inl (cE, 5, .inr (.inr (.inr (.inr (fun _ => none)))))), ((a 2), .inr (11, [.ref p1, .ref p2, .ref p3, .int 0, .long 0])), ((a 7), .inr (10, [.ref g, .int 0])), (g, .inl (cG, 8, .inr (.inr (.inr (.inr og))))), (b0, .inr (5, [.int 0, .ref dz, .int 0])), (b1, .inr (5, [.int 0, .ref dz, .int 0])), (b3, .inr (5, [.int 0, .ref dz, .int 0])), (oL, .inl (cL, 1, .inr (.inl (fun _ => 0)))), (oD, .inl (cD, 1, .inr (.inr (.inr (.inl (fun _ => 0))))))]) (w1 := [(mo, .inr (23, [.int 1, .ref b0, .ref b1, .ref b2, .ref b3, .int 0, .int 0, .long 0])), (b2, .inr (5, [.int 0, .ref dz, .int 0]))]) hP hD [7, 10] [0, 1, 2, 3, 4, 5, 6, 8, 9, 11, 12, 13] rfl rfl (by decide) (by decide) hk1 hFc hP1 hD1
    have hK := (hK.sub (tys' := [(cN, .int), (cE, .object "HeatStadium$Event"), (cG, .array .int), (cI, .int), (cL, .long), (cD, .double)]) [0, 1, 2, 3, 4, 5] rfl).app hK1
    generalize H1 = H at hP hS ⊢
    have hP : va_P D vwCl ([(h0, .inr (17, zHS a)), ((a 0), .inr (6, [.ref a1, .ref a2, .int 0])), (a1, .inl (cN, 30, .inl (fun _ => 0))), ((a 1), .inl (cE, 5, .inr (.inr (.inr (.inr (fun _ => none)))))), ((a 2), .inr (11, [.ref p1, .ref p2, .ref p3, .int 0, .long 0])), ((a 7), .inr (10, [.ref g, .int 0])), (g, .inl (cG, 8, .inr (.inr (.inr (.inr og))))), (b0, .inr (5, [.int 0, .ref dz, .int 0])), (b1, .inr (5, [.int 0, .ref dz, .int 0])), (b3, .inr (5, [.int 0, .ref dz, .int 0])), (oL, .inl (cL, 1, .inr (.inl (fun _ => 0)))), (oD, .inl (cD, 1, .inr (.inr (.inr (.inl (fun _ => 0)))))), (mo, .inr (23, [.int 1, .ref b0, .ref b1, .ref b2, .ref b3, .int 0, .int 0, .long 0])), (b2, .inr (5, [.int 0, .ref dz, .int 0]))] ++ va_pl LR (zrow cI)) H := hP
    have hD : va_D A ([(h0, .inr (17, zHS a)), ((a 0), .inr (6, [.ref a1, .ref a2, .int 0])), (a1, .inl (cN, 30, .inl (fun _ => 0))), ((a 1), .inl (cE, 5, .inr (.inr (.inr (.inr (fun _ => none)))))), ((a 2), .inr (11, [.ref p1, .ref p2, .ref p3, .int 0, .long 0])), ((a 7), .inr (10, [.ref g, .int 0])), (g, .inl (cG, 8, .inr (.inr (.inr (.inr og))))), (b0, .inr (5, [.int 0, .ref dz, .int 0])), (b1, .inr (5, [.int 0, .ref dz, .int 0])), (b3, .inr (5, [.int 0, .ref dz, .int 0])), (oL, .inl (cL, 1, .inr (.inl (fun _ => 0)))), (oD, .inl (cD, 1, .inr (.inr (.inr (.inl (fun _ => 0)))))), (mo, .inr (23, [.int 1, .ref b0, .ref b1, .ref b2, .ref b3, .int 0, .int 0, .long 0])), (b2, .inr (5, [.int 0, .ref dz, .int 0]))] ++ va_pl LR (zrow cI)) := hD
    have hK : va_K D vwCl [(cN, .int), (cE, .object "HeatStadium$Event"), (cG, .array .int), (cI, .int), (cL, .long), (cD, .double)] s := hK
    subst hw
    refine lv_istore (lv' := [(7, .int 0), (6, .int 1), (0, .ref b), (1, .ref h0), (2, .ref mo), (3, .ref oL), (4, .ref oD), (5, .int 0)]) hx hb dL_law_477 hl (by decide) rfl (fun ls hl => ?_)
    refine lv_aload_n hx hb dL_law_479 rfl (lv_at hl 4 rfl) ?_
    have hPc := hP.sub (ws' := [(mo, .inr (23, [.int 1, .ref b0, .ref b1, .ref b2, .ref b3, .int 0, .int 0, .long 0]))]) [12] rfl
    have hDc := hD.sub (ws' := [(mo, .inr (23, [.int 1, .ref b0, .ref b1, .ref b2, .ref b3, .int 0, .int 0, .long 0]))]) [12] (by decide) rfl
    have hKc := hK.sub (tys' := []) [] rfl
    have hFc : ∀ q : Nat, H.size ≤ q → A q := fun q h => hA q (Nat.le_trans hS.1 h)
    refine va_calli (va_runV (As := []) (rest := []) ⟨hx, hb, hml, hown, hts⟩ (cm_thrown l hst D H.size mo b0 b1 b2 b3 dz 1) (cwV 0 hts (goodIn_app (goodIn_of _ (by decide +kernel)) (goodIn_sub (fun _ h => List.mem_cons_of_mem _ (List.mem_append_right _ (List.mem_append_right _ (List.mem_append_right _ (List.mem_append_left _ h))))) zX17_thrown_ws_good)) rfl rfl rfl (by decide +kernel) ⟨Nat.le_of_ble_eq_true rfl, Nat.le_of_ble_eq_true rfl⟩) ⟨zPre.blind, va_recv hKc hPc (ci := 23) (q0 := 0) rfl rfl, zPre.mk hPc hKc hDc hz hS (fun q h => hFc q h)⟩ rfl rfl hl.1 rfl (lv_room (Nat.le_of_ble_eq_true rfl)) dL_law_480 ⟨Nat.le_of_ble_eq_true rfl, Nat.le_of_ble_eq_true rfl⟩) hS (fun q _ h => hFc q h) (fun q h => hFc q h) (fun r9 u t H1 locs ht9 hvm hw hB hz1 hk1 hS => ?_)
    refine W.widen (k := 201) (n := 3006) (by omega) (by omega) ?_
    have hP := zKeep hP hk1
    generalize H1 = H at hP hS ⊢
    have hP : va_P D vwCl ([(h0, .inr (17, zHS a)), ((a 0), .inr (6, [.ref a1, .ref a2, .int 0])), (a1, .inl (cN, 30, .inl (fun _ => 0))), ((a 1), .inl (cE, 5, .inr (.inr (.inr (.inr (fun _ => none)))))), ((a 2), .inr (11, [.ref p1, .ref p2, .ref p3, .int 0, .long 0])), ((a 7), .inr (10, [.ref g, .int 0])), (g, .inl (cG, 8, .inr (.inr (.inr (.inr og))))), (b0, .inr (5, [.int 0, .ref dz, .int 0])), (b1, .inr (5, [.int 0, .ref dz, .int 0])), (b3, .inr (5, [.int 0, .ref dz, .int 0])), (oL, .inl (cL, 1, .inr (.inl (fun _ => 0)))), (oD, .inl (cD, 1, .inr (.inr (.inr (.inl (fun _ => 0)))))), (mo, .inr (23, [.int 1, .ref b0, .ref b1, .ref b2, .ref b3, .int 0, .int 0, .long 0])), (b2, .inr (5, [.int 0, .ref dz, .int 0]))] ++ va_pl LR (zrow cI)) H := hP
    subst hw
    refine lv_iload hx hb dL_law_483 (lv_at hl 1 rfl) ?_
    refine lv_icmp_eq (tgt := 490) hx hb dL_law_485 (by decide) (fun _ => ?_) (fun c => absurd (by decide) c)
    refine lv_iload hx hb dL_law_490 (lv_at hl 1 rfl) ?_
    refine lv_if_ne (tgt := 514) hx hb dL_law_492 (by decide) (fun _ => ?_) (fun c => absurd c (by decide))
    refine lv_goto (tgt := 2497) hx hb dL_law_514 (by decide) ?_
    refine W.widen (k := 600) (n := 8000) (by omega) (by omega) ?_
    exact kk H _ hS ls (lv_sub hl [2, 7] rfl)

def w_lc_field : List Cond := .methodLink RL 150 yL_field :: ([.methodLink RL 150 yL_field, .static yL_field, .initialized RL, .methodLink RL 152 yX17_field, .instanceMethod yX17_field, .selects RX17 yX17_field yX17_field, .initialized RX17, .methodLink RL 134 yX17_thrown, .instanceMethod yX17_thrown, .selects RX17 yX17_thrown yX17_thrown] ++ (zL_field_ws ++ (zX17_field_ws ++ (zX17_thrown_ws ++ ([])))))
set_option maxHeartbeats 4000000 in
set_option maxRecDepth 100000 in
theorem w_lc_field_in : ∀ w ∈ w_lc_field, w ∈ lw_tbl := by decide +kernel
set_option maxHeartbeats 4000000 in
set_option maxRecDepth 100000 in
/-- the law's call of field -/
theorem lc_field {p : Program} {e : Env} {s : State} {m : MethodId} {below : List Frame} {meth : Method} {c : Code} {A : Nat → Prop} {Q : State → Prop} {b : Nat} {xs : Nat → Int32} (l : Launch) (hst : l.stackTraces = false) (D : va_G) (h0 : Nat) (a : Nat → Nat) (a1 a2 cN cE p1 p2 p3 g : Nat) (og : Nat → Option Nat) (LR : List Nat) (cG cI : Nat) (mo b0 b1 b2 b3 dz sa va oL oD cL cD : Nat) (x1 x2 x3 x4 x5 x6 : Int32) (hx : p.tables.exec = Jvm.exec) (hb : c.code = cL_law) (hml : c.maxLocals = 9) (hts : ∀ w ∈ w_lc_field, w.before #[Value.ref b] s = true) (hown : s.vm.findClass RL = some m.cls) (hX : va_X b 7 xs s s.heap) (hbl : b < s.heap.size) (hA : ∀ q : Nat, s.heap.size ≤ q → A q) (hbA : ¬ A b) (hz : zX A s s.heap) (hm : zMS dz sa va A s s.heap) (hg : ∀ i, i < 8 → ∃ y, og i = some y ∧ y ∈ LR) (e1 : xs (1 : Int32).toNatClampNeg = x1) (e2 : xs (2 : Int32).toNatClampNeg = x2) (e3 : xs (3 : Int32).toNatClampNeg = x3) (e4 : xs (4 : Int32).toNatClampNeg = x4) (e5 : xs (5 : Int32).toNatClampNeg = x5) (e6 : xs (6 : Int32).toNatClampNeg = x6) (kk : ∀ (H : Heap) (locs : List Loc), va_S A s.heap H locs → ∀ ls : Array Slot, lv_has ls 9 [(0, .ref b), (5, .int 0)] → W p l e room_1 s m #[Value.ref b] below meth c H locs 600 8000 Q (F0 m 2497 ls [])) (H : Heap) (locs : List Loc) (ls : Array Slot) (hP : va_P D vwCl ([(h0, .inr (17, zHS a)), ((a 0), .inr (6, [.ref a1, .ref a2, .int 0])), (a1, .inl (cN, 30, .inl (fun _ => 0))), ((a 1), .inl (cE, 5, .inr (.inr (.inr (.inr (fun _ => none)))))), ((a 2), .inr (11, [.ref p1, .ref p2, .ref p3, .int 0, .long 0])), ((a 7), .inr (10, [.ref g, .int 0])), (g, .inl (cG, 8, .inr (.inr (.inr (.inr og))))), (mo, .inr (23, [.int 0, .ref b0, .ref b1, .ref b2, .ref b3, .int 0, .int 0, .long 0])), (b0, .inr (5, [.int 0, .ref dz, .int 0])), (b1, .inr (5, [.int 0, .ref dz, .int 0])), (b2, .inr (5, [.int 0, .ref dz, .int 0])), (b3, .inr (5, [.int 0, .ref dz, .int 0])), (oL, .inl (cL, 1, .inr (.inl (fun _ => 0)))), (oD, .inl (cD, 1, .inr (.inr (.inr (.inl (fun _ => 0))))))] ++ va_pl LR (zrow cI)) H) (hD : va_D A ([(h0, .inr (17, zHS a)), ((a 0), .inr (6, [.ref a1, .ref a2, .int 0])), (a1, .inl (cN, 30, .inl (fun _ => 0))), ((a 1), .inl (cE, 5, .inr (.inr (.inr (.inr (fun _ => none)))))), ((a 2), .inr (11, [.ref p1, .ref p2, .ref p3, .int 0, .long 0])), ((a 7), .inr (10, [.ref g, .int 0])), (g, .inl (cG, 8, .inr (.inr (.inr (.inr og))))), (mo, .inr (23, [.int 0, .ref b0, .ref b1, .ref b2, .ref b3, .int 0, .int 0, .long 0])), (b0, .inr (5, [.int 0, .ref dz, .int 0])), (b1, .inr (5, [.int 0, .ref dz, .int 0])), (b2, .inr (5, [.int 0, .ref dz, .int 0])), (b3, .inr (5, [.int 0, .ref dz, .int 0])), (oL, .inl (cL, 1, .inr (.inl (fun _ => 0)))), (oD, .inl (cD, 1, .inr (.inr (.inr (.inl (fun _ => 0))))))] ++ va_pl LR (zrow cI))) (hK : va_K D vwCl [(cN, .int), (cE, .object "HeatStadium$Event"), (cG, .array .int), (cI, .int), (cL, .long), (cD, .double)] s) (hS : va_S A s.heap H locs) (hl : lv_has ls 9 [(0, .ref b), (1, .ref h0), (2, .ref mo), (3, .ref oL), (4, .ref oD), (5, .int 0)]) : W p l e room_1 s m #[Value.ref b] below meth c H locs 200 3000 Q (F0 m 517 ls []) := by
  refine lv_aload_n hx hb dL_law_517 rfl (lv_at hl 1 rfl) ?_
  refine lv_aload_n hx hb dL_law_518 rfl (lv_at hl 0 rfl) ?_
  refine lv_iload hx hb dL_law_519 (lv_at hl 5 rfl) ?_
  refine lv_iconst (v := 1) hx hb dL_law_521 (by decide) ?_
  refine lv_iadd hx hb dL_law_522 ?_
  refine lv_topi (fun z1 ez1 => ?_)
  obtain rfl : z1 = 1 := ez1.trans (by decide)
  refine va_sld hx hb hX hbl hbA hS (show vp_in 1 7 by unfold vp_in; decide) dL_law_523 ?_
  rw [e1]
  refine lv_aload_n hx hb dL_law_524 rfl (lv_at hl 3 rfl) ?_
  have hPc := hP.sub (ws' := [(h0, .inr (17, zHS a))]) [0] rfl
  have hDc := hD.sub (ws' := [(h0, .inr (17, zHS a))]) [0] (by decide) rfl
  have hKc := hK.sub (tys' := []) [] rfl
  have hFc : ∀ q : Nat, H.size ≤ q → A q := fun q h => hA q (Nat.le_trans hS.1 h)
  refine vx_calli (vx_runSX (As := [.ref h0, .int x1, .ref oL]) (rest := []) ⟨hx, hb, hml, hown, hts⟩ (cl_field l hst D H.size h0 a x1 oL) (vx_cwSW 3 hts (goodIn_app (goodIn_of _ (by decide +kernel)) (goodIn_sub (fun _ h => List.mem_cons_of_mem _ (List.mem_append_right _ (List.mem_append_left _ h))) zL_field_ws_good)) rfl rfl rfl (by decide +kernel) ⟨Nat.le_of_ble_eq_true rfl, Nat.le_of_ble_eq_true rfl⟩) ⟨zPre.blind, zPre.mk hPc hKc hDc hz hS (fun q h => hFc q h)⟩ rfl rfl hl.1 rfl (lv_room (Nat.le_of_ble_eq_true rfl)) dL_law_525 ⟨Nat.le_of_ble_eq_true rfl, Nat.le_of_ble_eq_true rfl⟩) hS (fun q _ h => hFc q h) (fun q h => hFc q h) (fun q _ h => hFc q h) (fun E9 ce q9 u t H1 locs ht9 hvm hpx hBX hz1 hk1 hS hcell hv9 hcl => ?_) (fun r9 u t H1 locs ht9 hvm hw hB hz1 hk1 hS => ?_)
  · exact False.elim hpx
  refine W.widen (k := 201) (n := 3006) (by omega) (by omega) ?_
  have hP := zKeep hP hk1
  generalize H1 = H at hP hS ⊢
  have hP : va_P D vwCl ([(h0, .inr (17, zHS a)), ((a 0), .inr (6, [.ref a1, .ref a2, .int 0])), (a1, .inl (cN, 30, .inl (fun _ => 0))), ((a 1), .inl (cE, 5, .inr (.inr (.inr (.inr (fun _ => none)))))), ((a 2), .inr (11, [.ref p1, .ref p2, .ref p3, .int 0, .long 0])), ((a 7), .inr (10, [.ref g, .int 0])), (g, .inl (cG, 8, .inr (.inr (.inr (.inr og))))), (mo, .inr (23, [.int 0, .ref b0, .ref b1, .ref b2, .ref b3, .int 0, .int 0, .long 0])), (b0, .inr (5, [.int 0, .ref dz, .int 0])), (b1, .inr (5, [.int 0, .ref dz, .int 0])), (b2, .inr (5, [.int 0, .ref dz, .int 0])), (b3, .inr (5, [.int 0, .ref dz, .int 0])), (oL, .inl (cL, 1, .inr (.inl (fun _ => 0)))), (oD, .inl (cD, 1, .inr (.inr (.inr (.inl (fun _ => 0))))))] ++ va_pl LR (zrow cI)) H := hP
  subst hw
  refine lv_istore (lv' := [(6, .int 1), (0, .ref b), (1, .ref h0), (2, .ref mo), (3, .ref oL), (4, .ref oD), (5, .int 0)]) hx hb dL_law_528 hl (by decide) rfl (fun ls hl => ?_)
  refine lv_aload_n hx hb dL_law_530 rfl (lv_at hl 3 rfl) ?_
  refine lv_aload_n hx hb dL_law_531 rfl (lv_at hl 1 rfl) ?_
  refine lv_iload hx hb dL_law_532 (lv_at hl 6 rfl) ?_
  refine lv_iconst (v := 1) hx hb dL_law_534 (by decide) ?_
  refine lv_iadd hx hb dL_law_535 ?_
  refine lv_topi (fun z2 ez2 => ?_)
  obtain rfl : z2 = 1 := ez2.trans (by decide)
  refine va_sld hx hb hX hbl hbA hS (show vp_in 1 7 by unfold vp_in; decide) dL_law_536 ?_
  rw [e1]
  have hPc := hP.sub (ws' := [(mo, .inr (23, [.int 0, .ref b0, .ref b1, .ref b2, .ref b3, .int 0, .int 0, .long 0])), (b2, .inr (5, [.int 0, .ref dz, .int 0]))]) [7, 10] rfl
  have hDc := hD.sub (ws' := [(mo, .inr (23, [.int 0, .ref b0, .ref b1, .ref b2, .ref b3, .int 0, .int 0, .long 0])), (b2, .inr (5, [.int 0, .ref dz, .int 0]))]) [7, 10] (by decide) rfl
  have hKc := hK.sub (tys' := []) [] rfl
  have hFc := va_free (wc := [(mo, .inr (23, [.int 0, .ref b0, .ref b1, .ref b2, .ref b3, .int 0, .int 0, .long 0])), (b2, .inr (5, [.int 0, .ref dz, .int 0]))]) hD hS hA [7, 10] rfl
  refine va_calli (va_runV (As := [.int x1]) (rest := []) ⟨hx, hb, hml, hown, hts⟩ (cm_field l hst D H.size mo b0 b1 b2 b3 dz 0 x1) (cwV 1 hts (goodIn_app (goodIn_of _ (by decide +kernel)) (goodIn_sub (fun _ h => List.mem_cons_of_mem _ (List.mem_append_right _ (List.mem_append_right _ (List.mem_append_left _ h)))) zX17_field_ws_good)) rfl rfl rfl (by decide +kernel) ⟨Nat.le_of_ble_eq_true rfl, Nat.le_of_ble_eq_true rfl⟩) ⟨zPre.blind, va_recv hKc hPc (ci := 23) (q0 := 0) rfl rfl, zPre.mk hPc hKc hDc hz hS (fun q h => hFc q h)⟩ rfl rfl hl.1 rfl (lv_room (Nat.le_of_ble_eq_true rfl)) dL_law_537 ⟨Nat.le_of_ble_eq_true rfl, Nat.le_of_ble_eq_true rfl⟩) hS (fun q _ h => hFc q h) (fun q h => hFc q h) (fun r9 u t H1 locs ht9 hvm hw hB hz1 hk1 hS => ?_)
  refine W.widen (k := 201) (n := 3006) (by omega) (by omega) ?_
  obtain ⟨hP1, hK1, hD1⟩ := hB
  rw [ht9] at hP1
  have hK1 := va_K.moved hvm.symm hK1
  obtain ⟨hP, hD⟩ := va_joinQ (wr := [(h0, .inr (17, zHS a)), ((a 0), .inr (6, [.ref a1, .ref a2, .int 0])), (a1, .inl (cN, 30, .inl (fun _ => 0))), ((a 1), .inl (cE, 5, .inr (.inr (.inr (.inr (fun _ => none)))))), ((a 2), .inr (11, [.ref p1, .ref p2, .ref p3, .int 0, .long 0])), ((a 7), .inr (10, [.ref g, .int 0])), (g, .inl (cG, 8, .inr (.inr (.inr (.inr og))))), (b0, .inr (5, [.int 0, .ref dz, .int 0])), (b1, .inr (5, [.int 0, .ref dz, .int 0])), (b3, .inr (5, [.int 0, .ref dz, .int 0])), (oL, .inl (cL, 1, .inr (.inl (fun _ => 0)))), (oD, .inl (cD, 1, .inr (.inr (.inr (.inl (fun _ => 0))))))]) (w1 := [(mo, .inr (23, [.int 1, .ref b0, .ref b1, .ref b2, .ref b3, .int 0, .int 0, .long 0])), (b2, .inr (5, [.int 0, .ref dz, .int 0]))]) hP hD [7, 10] [0, 1, 2, 3, 4, 5, 6, 8, 9, 11, 12, 13] rfl rfl (by decide) (by decide) hk1 hFc hP1 hD1
  have hK := (hK.sub (tys' := [(cN, .int), (cE, .object "HeatStadium$Event"), (cG, .array .int), (cI, .int), (cL, .long), (cD, .double)]) [0, 1, 2, 3, 4, 5] rfl).app hK1
  generalize H1 = H at hP hS ⊢
  have hP : va_P D vwCl ([(h0, .inr (17, zHS a)), ((a 0), .inr (6, [.ref a1, .ref a2, .int 0])), (a1, .inl (cN, 30, .inl (fun _ => 0))), ((a 1), .inl (cE, 5, .inr (.inr (.inr (.inr (fun _ => none)))))), ((a 2), .inr (11, [.ref p1, .ref p2, .ref p3, .int 0, .long 0])), ((a 7), .inr (10, [.ref g, .int 0])), (g, .inl (cG, 8, .inr (.inr (.inr (.inr og))))), (b0, .inr (5, [.int 0, .ref dz, .int 0])), (b1, .inr (5, [.int 0, .ref dz, .int 0])), (b3, .inr (5, [.int 0, .ref dz, .int 0])), (oL, .inl (cL, 1, .inr (.inl (fun _ => 0)))), (oD, .inl (cD, 1, .inr (.inr (.inr (.inl (fun _ => 0)))))), (mo, .inr (23, [.int 1, .ref b0, .ref b1, .ref b2, .ref b3, .int 0, .int 0, .long 0])), (b2, .inr (5, [.int 0, .ref dz, .int 0]))] ++ va_pl LR (zrow cI)) H := hP
  have hD : va_D A ([(h0, .inr (17, zHS a)), ((a 0), .inr (6, [.ref a1, .ref a2, .int 0])), (a1, .inl (cN, 30, .inl (fun _ => 0))), ((a 1), .inl (cE, 5, .inr (.inr (.inr (.inr (fun _ => none)))))), ((a 2), .inr (11, [.ref p1, .ref p2, .ref p3, .int 0, .long 0])), ((a 7), .inr (10, [.ref g, .int 0])), (g, .inl (cG, 8, .inr (.inr (.inr (.inr og))))), (b0, .inr (5, [.int 0, .ref dz, .int 0])), (b1, .inr (5, [.int 0, .ref dz, .int 0])), (b3, .inr (5, [.int 0, .ref dz, .int 0])), (oL, .inl (cL, 1, .inr (.inl (fun _ => 0)))), (oD, .inl (cD, 1, .inr (.inr (.inr (.inl (fun _ => 0)))))), (mo, .inr (23, [.int 1, .ref b0, .ref b1, .ref b2, .ref b3, .int 0, .int 0, .long 0])), (b2, .inr (5, [.int 0, .ref dz, .int 0]))] ++ va_pl LR (zrow cI)) := hD
  have hK : va_K D vwCl [(cN, .int), (cE, .object "HeatStadium$Event"), (cG, .array .int), (cI, .int), (cL, .long), (cD, .double)] s := hK
  subst hw
  refine lv_istore (lv' := [(7, .int 0), (6, .int 1), (0, .ref b), (1, .ref h0), (2, .ref mo), (3, .ref oL), (4, .ref oD), (5, .int 0)]) hx hb dL_law_540 hl (by decide) rfl (fun ls hl => ?_)
  refine lv_aload_n hx hb dL_law_542 rfl (lv_at hl 4 rfl) ?_
  have hPc := hP.sub (ws' := [(mo, .inr (23, [.int 1, .ref b0, .ref b1, .ref b2, .ref b3, .int 0, .int 0, .long 0]))]) [12] rfl
  have hDc := hD.sub (ws' := [(mo, .inr (23, [.int 1, .ref b0, .ref b1, .ref b2, .ref b3, .int 0, .int 0, .long 0]))]) [12] (by decide) rfl
  have hKc := hK.sub (tys' := []) [] rfl
  have hFc : ∀ q : Nat, H.size ≤ q → A q := fun q h => hA q (Nat.le_trans hS.1 h)
  refine va_calli (va_runV (As := []) (rest := []) ⟨hx, hb, hml, hown, hts⟩ (cm_thrown l hst D H.size mo b0 b1 b2 b3 dz 1) (cwV 0 hts (goodIn_app (goodIn_of _ (by decide +kernel)) (goodIn_sub (fun _ h => List.mem_cons_of_mem _ (List.mem_append_right _ (List.mem_append_right _ (List.mem_append_right _ (List.mem_append_left _ h))))) zX17_thrown_ws_good)) rfl rfl rfl (by decide +kernel) ⟨Nat.le_of_ble_eq_true rfl, Nat.le_of_ble_eq_true rfl⟩) ⟨zPre.blind, va_recv hKc hPc (ci := 23) (q0 := 0) rfl rfl, zPre.mk hPc hKc hDc hz hS (fun q h => hFc q h)⟩ rfl rfl hl.1 rfl (lv_room (Nat.le_of_ble_eq_true rfl)) dL_law_543 ⟨Nat.le_of_ble_eq_true rfl, Nat.le_of_ble_eq_true rfl⟩) hS (fun q _ h => hFc q h) (fun q h => hFc q h) (fun r9 u t H1 locs ht9 hvm hw hB hz1 hk1 hS => ?_)
  refine W.widen (k := 201) (n := 3006) (by omega) (by omega) ?_
  have hP := zKeep hP hk1
  generalize H1 = H at hP hS ⊢
  have hP : va_P D vwCl ([(h0, .inr (17, zHS a)), ((a 0), .inr (6, [.ref a1, .ref a2, .int 0])), (a1, .inl (cN, 30, .inl (fun _ => 0))), ((a 1), .inl (cE, 5, .inr (.inr (.inr (.inr (fun _ => none)))))), ((a 2), .inr (11, [.ref p1, .ref p2, .ref p3, .int 0, .long 0])), ((a 7), .inr (10, [.ref g, .int 0])), (g, .inl (cG, 8, .inr (.inr (.inr (.inr og))))), (b0, .inr (5, [.int 0, .ref dz, .int 0])), (b1, .inr (5, [.int 0, .ref dz, .int 0])), (b3, .inr (5, [.int 0, .ref dz, .int 0])), (oL, .inl (cL, 1, .inr (.inl (fun _ => 0)))), (oD, .inl (cD, 1, .inr (.inr (.inr (.inl (fun _ => 0)))))), (mo, .inr (23, [.int 1, .ref b0, .ref b1, .ref b2, .ref b3, .int 0, .int 0, .long 0])), (b2, .inr (5, [.int 0, .ref dz, .int 0]))] ++ va_pl LR (zrow cI)) H := hP
  subst hw
  refine lv_iload hx hb dL_law_546 (lv_at hl 1 rfl) ?_
  refine lv_icmp_eq (tgt := 553) hx hb dL_law_548 (by decide) (fun _ => ?_) (fun c => absurd (by decide) c)
  refine lv_iload hx hb dL_law_553 (lv_at hl 1 rfl) ?_
  refine lv_if_ne (tgt := 570) hx hb dL_law_555 (by decide) (fun _ => ?_) (fun c => absurd c (by decide))
  refine lv_goto (tgt := 2497) hx hb dL_law_570 (by decide) ?_
  refine W.widen (k := 600) (n := 8000) (by omega) (by omega) ?_
  exact kk H _ hS ls (lv_sub hl [2, 7] rfl)

def w_lc_inField : List Cond := .methodLink RL 153 yL_inField :: ([.methodLink RL 153 yL_inField, .static yL_inField, .initialized RL, .methodLink RL 156 yX17_inField, .instanceMethod yX17_inField, .selects RX17 yX17_inField yX17_inField, .initialized RX17, .methodLink RL 134 yX17_thrown, .instanceMethod yX17_thrown, .selects RX17 yX17_thrown yX17_thrown] ++ (zL_inField_ws ++ (zX17_inField_ws ++ (zX17_thrown_ws ++ ([])))))
set_option maxHeartbeats 4000000 in
set_option maxRecDepth 100000 in
theorem w_lc_inField_in : ∀ w ∈ w_lc_inField, w ∈ lw_tbl := by decide +kernel
set_option maxHeartbeats 4000000 in
set_option maxRecDepth 100000 in
/-- the law's call of inField -/
theorem lc_inField {p : Program} {e : Env} {s : State} {m : MethodId} {below : List Frame} {meth : Method} {c : Code} {A : Nat → Prop} {Q : State → Prop} {b : Nat} {xs : Nat → Int32} (l : Launch) (hst : l.stackTraces = false) (D : va_G) (h0 : Nat) (a : Nat → Nat) (a1 a2 cN cE p1 p2 p3 g : Nat) (og : Nat → Option Nat) (LR : List Nat) (cG cI : Nat) (mo b0 b1 b2 b3 dz sa va oL oD cL cD : Nat) (x1 x2 x3 x4 x5 x6 : Int32) (hx : p.tables.exec = Jvm.exec) (hb : c.code = cL_law) (hml : c.maxLocals = 9) (hts : ∀ w ∈ w_lc_inField, w.before #[Value.ref b] s = true) (hown : s.vm.findClass RL = some m.cls) (hX : va_X b 7 xs s s.heap) (hbl : b < s.heap.size) (hA : ∀ q : Nat, s.heap.size ≤ q → A q) (hbA : ¬ A b) (hz : zX A s s.heap) (hm : zMS dz sa va A s s.heap) (hg : ∀ i, i < 8 → ∃ y, og i = some y ∧ y ∈ LR) (e1 : xs (1 : Int32).toNatClampNeg = x1) (e2 : xs (2 : Int32).toNatClampNeg = x2) (e3 : xs (3 : Int32).toNatClampNeg = x3) (e4 : xs (4 : Int32).toNatClampNeg = x4) (e5 : xs (5 : Int32).toNatClampNeg = x5) (e6 : xs (6 : Int32).toNatClampNeg = x6) (kk : ∀ (H : Heap) (locs : List Loc), va_S A s.heap H locs → ∀ ls : Array Slot, lv_has ls 9 [(0, .ref b), (5, .int 0)] → W p l e room_1 s m #[Value.ref b] below meth c H locs 600 8000 Q (F0 m 2497 ls [])) (H : Heap) (locs : List Loc) (ls : Array Slot) (hP : va_P D vwCl ([(h0, .inr (17, zHS a)), ((a 0), .inr (6, [.ref a1, .ref a2, .int 0])), (a1, .inl (cN, 30, .inl (fun _ => 0))), ((a 1), .inl (cE, 5, .inr (.inr (.inr (.inr (fun _ => none)))))), ((a 2), .inr (11, [.ref p1, .ref p2, .ref p3, .int 0, .long 0])), ((a 7), .inr (10, [.ref g, .int 0])), (g, .inl (cG, 8, .inr (.inr (.inr (.inr og))))), (mo, .inr (23, [.int 0, .ref b0, .ref b1, .ref b2, .ref b3, .int 0, .int 0, .long 0])), (b0, .inr (5, [.int 0, .ref dz, .int 0])), (b1, .inr (5, [.int 0, .ref dz, .int 0])), (b2, .inr (5, [.int 0, .ref dz, .int 0])), (b3, .inr (5, [.int 0, .ref dz, .int 0])), (oL, .inl (cL, 1, .inr (.inl (fun _ => 0)))), (oD, .inl (cD, 1, .inr (.inr (.inr (.inl (fun _ => 0))))))] ++ va_pl LR (zrow cI)) H) (hD : va_D A ([(h0, .inr (17, zHS a)), ((a 0), .inr (6, [.ref a1, .ref a2, .int 0])), (a1, .inl (cN, 30, .inl (fun _ => 0))), ((a 1), .inl (cE, 5, .inr (.inr (.inr (.inr (fun _ => none)))))), ((a 2), .inr (11, [.ref p1, .ref p2, .ref p3, .int 0, .long 0])), ((a 7), .inr (10, [.ref g, .int 0])), (g, .inl (cG, 8, .inr (.inr (.inr (.inr og))))), (mo, .inr (23, [.int 0, .ref b0, .ref b1, .ref b2, .ref b3, .int 0, .int 0, .long 0])), (b0, .inr (5, [.int 0, .ref dz, .int 0])), (b1, .inr (5, [.int 0, .ref dz, .int 0])), (b2, .inr (5, [.int 0, .ref dz, .int 0])), (b3, .inr (5, [.int 0, .ref dz, .int 0])), (oL, .inl (cL, 1, .inr (.inl (fun _ => 0)))), (oD, .inl (cD, 1, .inr (.inr (.inr (.inl (fun _ => 0))))))] ++ va_pl LR (zrow cI))) (hK : va_K D vwCl [(cN, .int), (cE, .object "HeatStadium$Event"), (cG, .array .int), (cI, .int), (cL, .long), (cD, .double)] s) (hS : va_S A s.heap H locs) (hl : lv_has ls 9 [(0, .ref b), (1, .ref h0), (2, .ref mo), (3, .ref oL), (4, .ref oD), (5, .int 0)]) : W p l e room_1 s m #[Value.ref b] below meth c H locs 200 3000 Q (F0 m 573 ls []) := by
  refine lv_aload_n hx hb dL_law_573 rfl (lv_at hl 1 rfl) ?_
  refine lv_aload_n hx hb dL_law_574 rfl (lv_at hl 0 rfl) ?_
  refine lv_iload hx hb dL_law_575 (lv_at hl 5 rfl) ?_
  refine lv_iconst (v := 1) hx hb dL_law_577 (by decide) ?_
  refine lv_iadd hx hb dL_law_578 ?_
  refine lv_topi (fun z1 ez1 => ?_)
  obtain rfl : z1 = 1 := ez1.trans (by decide)
  refine va_sld hx hb hX hbl hbA hS (show vp_in 1 7 by unfold vp_in; decide) dL_law_579 ?_
  rw [e1]
  refine lv_aload_n hx hb dL_law_580 rfl (lv_at hl 0 rfl) ?_
  refine lv_iload hx hb dL_law_581 (lv_at hl 5 rfl) ?_
  refine lv_iconst (v := 2) hx hb dL_law_583 (by decide) ?_
  refine lv_iadd hx hb dL_law_584 ?_
  refine lv_topi (fun z2 ez2 => ?_)
  obtain rfl : z2 = 2 := ez2.trans (by decide)
  refine va_sld hx hb hX hbl hbA hS (show vp_in 2 7 by unfold vp_in; decide) dL_law_585 ?_
  rw [e2]
  refine lv_aload_n hx hb dL_law_586 rfl (lv_at hl 3 rfl) ?_
  have hPc := hP.sub (ws' := [(h0, .inr (17, zHS a))]) [0] rfl
  have hDc := hD.sub (ws' := [(h0, .inr (17, zHS a))]) [0] (by decide) rfl
  have hKc := hK.sub (tys' := []) [] rfl
  have hFc : ∀ q : Nat, H.size ≤ q → A q := fun q h => hA q (Nat.le_trans hS.1 h)
  refine vx_calli (vx_runSX (As := [.ref h0, .int x1, .int x2, .ref oL]) (rest := []) ⟨hx, hb, hml, hown, hts⟩ (cl_inField l hst D H.size h0 a x1 x2 oL) (vx_cwSW 4 hts (goodIn_app (goodIn_of _ (by decide +kernel)) (goodIn_sub (fun _ h => List.mem_cons_of_mem _ (List.mem_append_right _ (List.mem_append_left _ h))) zL_inField_ws_good)) rfl rfl rfl (by decide +kernel) ⟨Nat.le_of_ble_eq_true rfl, Nat.le_of_ble_eq_true rfl⟩) ⟨zPre.blind, zPre.mk hPc hKc hDc hz hS (fun q h => hFc q h)⟩ rfl rfl hl.1 rfl (lv_room (Nat.le_of_ble_eq_true rfl)) dL_law_587 ⟨Nat.le_of_ble_eq_true rfl, Nat.le_of_ble_eq_true rfl⟩) hS (fun q _ h => hFc q h) (fun q h => hFc q h) (fun q _ h => hFc q h) (fun E9 ce q9 u t H1 locs ht9 hvm hpx hBX hz1 hk1 hS hcell hv9 hcl => ?_) (fun r9 u t H1 locs ht9 hvm hw hB hz1 hk1 hS => ?_)
  · exact False.elim hpx
  refine W.widen (k := 201) (n := 3006) (by omega) (by omega) ?_
  have hP := zKeep hP hk1
  generalize H1 = H at hP hS ⊢
  have hP : va_P D vwCl ([(h0, .inr (17, zHS a)), ((a 0), .inr (6, [.ref a1, .ref a2, .int 0])), (a1, .inl (cN, 30, .inl (fun _ => 0))), ((a 1), .inl (cE, 5, .inr (.inr (.inr (.inr (fun _ => none)))))), ((a 2), .inr (11, [.ref p1, .ref p2, .ref p3, .int 0, .long 0])), ((a 7), .inr (10, [.ref g, .int 0])), (g, .inl (cG, 8, .inr (.inr (.inr (.inr og))))), (mo, .inr (23, [.int 0, .ref b0, .ref b1, .ref b2, .ref b3, .int 0, .int 0, .long 0])), (b0, .inr (5, [.int 0, .ref dz, .int 0])), (b1, .inr (5, [.int 0, .ref dz, .int 0])), (b2, .inr (5, [.int 0, .ref dz, .int 0])), (b3, .inr (5, [.int 0, .ref dz, .int 0])), (oL, .inl (cL, 1, .inr (.inl (fun _ => 0)))), (oD, .inl (cD, 1, .inr (.inr (.inr (.inl (fun _ => 0))))))] ++ va_pl LR (zrow cI)) H := hP
  subst hw
  refine lv_istore (lv' := [(6, .int 1), (0, .ref b), (1, .ref h0), (2, .ref mo), (3, .ref oL), (4, .ref oD), (5, .int 0)]) hx hb dL_law_590 hl (by decide) rfl (fun ls hl => ?_)
  refine lv_aload_n hx hb dL_law_592 rfl (lv_at hl 3 rfl) ?_
  refine lv_aload_n hx hb dL_law_593 rfl (lv_at hl 1 rfl) ?_
  refine lv_iload hx hb dL_law_594 (lv_at hl 6 rfl) ?_
  refine lv_iconst (v := 1) hx hb dL_law_596 (by decide) ?_
  refine lv_iadd hx hb dL_law_597 ?_
  refine lv_topi (fun z3 ez3 => ?_)
  obtain rfl : z3 = 1 := ez3.trans (by decide)
  refine va_sld hx hb hX hbl hbA hS (show vp_in 1 7 by unfold vp_in; decide) dL_law_598 ?_
  rw [e1]
  refine lv_aload_n hx hb dL_law_599 rfl (lv_at hl 1 rfl) ?_
  refine lv_iload hx hb dL_law_600 (lv_at hl 6 rfl) ?_
  refine lv_iconst (v := 2) hx hb dL_law_602 (by decide) ?_
  refine lv_iadd hx hb dL_law_603 ?_
  refine lv_topi (fun z4 ez4 => ?_)
  obtain rfl : z4 = 2 := ez4.trans (by decide)
  refine va_sld hx hb hX hbl hbA hS (show vp_in 2 7 by unfold vp_in; decide) dL_law_604 ?_
  rw [e2]
  have hPc := hP.sub (ws' := [(mo, .inr (23, [.int 0, .ref b0, .ref b1, .ref b2, .ref b3, .int 0, .int 0, .long 0])), (b2, .inr (5, [.int 0, .ref dz, .int 0]))]) [7, 10] rfl
  have hDc := hD.sub (ws' := [(mo, .inr (23, [.int 0, .ref b0, .ref b1, .ref b2, .ref b3, .int 0, .int 0, .long 0])), (b2, .inr (5, [.int 0, .ref dz, .int 0]))]) [7, 10] (by decide) rfl
  have hKc := hK.sub (tys' := []) [] rfl
  have hFc := va_free (wc := [(mo, .inr (23, [.int 0, .ref b0, .ref b1, .ref b2, .ref b3, .int 0, .int 0, .long 0])), (b2, .inr (5, [.int 0, .ref dz, .int 0]))]) hD hS hA [7, 10] rfl
  refine va_calli (va_runV (As := [.int x1, .int x2]) (rest := []) ⟨hx, hb, hml, hown, hts⟩ (cm_inField l hst D H.size mo b0 b1 b2 b3 dz 0 x1 x2) (cwV 2 hts (goodIn_app (goodIn_of _ (by decide +kernel)) (goodIn_sub (fun _ h => List.mem_cons_of_mem _ (List.mem_append_right _ (List.mem_append_right _ (List.mem_append_left _ h)))) zX17_inField_ws_good)) rfl rfl rfl (by decide +kernel) ⟨Nat.le_of_ble_eq_true rfl, Nat.le_of_ble_eq_true rfl⟩) ⟨zPre.blind, va_recv hKc hPc (ci := 23) (q0 := 0) rfl rfl, zPre.mk hPc hKc hDc hz hS (fun q h => hFc q h)⟩ rfl rfl hl.1 rfl (lv_room (Nat.le_of_ble_eq_true rfl)) dL_law_605 ⟨Nat.le_of_ble_eq_true rfl, Nat.le_of_ble_eq_true rfl⟩) hS (fun q _ h => hFc q h) (fun q h => hFc q h) (fun r9 u t H1 locs ht9 hvm hw hB hz1 hk1 hS => ?_)
  refine W.widen (k := 201) (n := 3006) (by omega) (by omega) ?_
  obtain ⟨hP1, hK1, hD1⟩ := hB
  rw [ht9] at hP1
  have hK1 := va_K.moved hvm.symm hK1
  obtain ⟨hP, hD⟩ := va_joinQ (wr := [(h0, .inr (17, zHS a)), ((a 0), .inr (6, [.ref a1, .ref a2, .int 0])), (a1, .inl (cN, 30, .inl (fun _ => 0))), ((a 1), .inl (cE, 5, .inr (.inr (.inr (.inr (fun _ => none)))))), ((a 2), .inr (11, [.ref p1, .ref p2, .ref p3, .int 0, .long 0])), ((a 7), .inr (10, [.ref g, .int 0])), (g, .inl (cG, 8, .inr (.inr (.inr (.inr og))))), (b0, .inr (5, [.int 0, .ref dz, .int 0])), (b1, .inr (5, [.int 0, .ref dz, .int 0])), (b3, .inr (5, [.int 0, .ref dz, .int 0])), (oL, .inl (cL, 1, .inr (.inl (fun _ => 0)))), (oD, .inl (cD, 1, .inr (.inr (.inr (.inl (fun _ => 0))))))]) (w1 := [(mo, .inr (23, [.int 1, .ref b0, .ref b1, .ref b2, .ref b3, .int 0, .int 0, .long 0])), (b2, .inr (5, [.int 0, .ref dz, .int 0]))]) hP hD [7, 10] [0, 1, 2, 3, 4, 5, 6, 8, 9, 11, 12, 13] rfl rfl (by decide) (by decide) hk1 hFc hP1 hD1
  have hK := (hK.sub (tys' := [(cN, .int), (cE, .object "HeatStadium$Event"), (cG, .array .int), (cI, .int), (cL, .long), (cD, .double)]) [0, 1, 2, 3, 4, 5] rfl).app hK1
  generalize H1 = H at hP hS ⊢
  have hP : va_P D vwCl ([(h0, .inr (17, zHS a)), ((a 0), .inr (6, [.ref a1, .ref a2, .int 0])), (a1, .inl (cN, 30, .inl (fun _ => 0))), ((a 1), .inl (cE, 5, .inr (.inr (.inr (.inr (fun _ => none)))))), ((a 2), .inr (11, [.ref p1, .ref p2, .ref p3, .int 0, .long 0])), ((a 7), .inr (10, [.ref g, .int 0])), (g, .inl (cG, 8, .inr (.inr (.inr (.inr og))))), (b0, .inr (5, [.int 0, .ref dz, .int 0])), (b1, .inr (5, [.int 0, .ref dz, .int 0])), (b3, .inr (5, [.int 0, .ref dz, .int 0])), (oL, .inl (cL, 1, .inr (.inl (fun _ => 0)))), (oD, .inl (cD, 1, .inr (.inr (.inr (.inl (fun _ => 0)))))), (mo, .inr (23, [.int 1, .ref b0, .ref b1, .ref b2, .ref b3, .int 0, .int 0, .long 0])), (b2, .inr (5, [.int 0, .ref dz, .int 0]))] ++ va_pl LR (zrow cI)) H := hP
  have hD : va_D A ([(h0, .inr (17, zHS a)), ((a 0), .inr (6, [.ref a1, .ref a2, .int 0])), (a1, .inl (cN, 30, .inl (fun _ => 0))), ((a 1), .inl (cE, 5, .inr (.inr (.inr (.inr (fun _ => none)))))), ((a 2), .inr (11, [.ref p1, .ref p2, .ref p3, .int 0, .long 0])), ((a 7), .inr (10, [.ref g, .int 0])), (g, .inl (cG, 8, .inr (.inr (.inr (.inr og))))), (b0, .inr (5, [.int 0, .ref dz, .int 0])), (b1, .inr (5, [.int 0, .ref dz, .int 0])), (b3, .inr (5, [.int 0, .ref dz, .int 0])), (oL, .inl (cL, 1, .inr (.inl (fun _ => 0)))), (oD, .inl (cD, 1, .inr (.inr (.inr (.inl (fun _ => 0)))))), (mo, .inr (23, [.int 1, .ref b0, .ref b1, .ref b2, .ref b3, .int 0, .int 0, .long 0])), (b2, .inr (5, [.int 0, .ref dz, .int 0]))] ++ va_pl LR (zrow cI)) := hD
  have hK : va_K D vwCl [(cN, .int), (cE, .object "HeatStadium$Event"), (cG, .array .int), (cI, .int), (cL, .long), (cD, .double)] s := hK
  subst hw
  refine lv_istore (lv' := [(7, .int 0), (6, .int 1), (0, .ref b), (1, .ref h0), (2, .ref mo), (3, .ref oL), (4, .ref oD), (5, .int 0)]) hx hb dL_law_608 hl (by decide) rfl (fun ls hl => ?_)
  refine lv_aload_n hx hb dL_law_610 rfl (lv_at hl 4 rfl) ?_
  have hPc := hP.sub (ws' := [(mo, .inr (23, [.int 1, .ref b0, .ref b1, .ref b2, .ref b3, .int 0, .int 0, .long 0]))]) [12] rfl
  have hDc := hD.sub (ws' := [(mo, .inr (23, [.int 1, .ref b0, .ref b1, .ref b2, .ref b3, .int 0, .int 0, .long 0]))]) [12] (by decide) rfl
  have hKc := hK.sub (tys' := []) [] rfl
  have hFc : ∀ q : Nat, H.size ≤ q → A q := fun q h => hA q (Nat.le_trans hS.1 h)
  refine va_calli (va_runV (As := []) (rest := []) ⟨hx, hb, hml, hown, hts⟩ (cm_thrown l hst D H.size mo b0 b1 b2 b3 dz 1) (cwV 0 hts (goodIn_app (goodIn_of _ (by decide +kernel)) (goodIn_sub (fun _ h => List.mem_cons_of_mem _ (List.mem_append_right _ (List.mem_append_right _ (List.mem_append_right _ (List.mem_append_left _ h))))) zX17_thrown_ws_good)) rfl rfl rfl (by decide +kernel) ⟨Nat.le_of_ble_eq_true rfl, Nat.le_of_ble_eq_true rfl⟩) ⟨zPre.blind, va_recv hKc hPc (ci := 23) (q0 := 0) rfl rfl, zPre.mk hPc hKc hDc hz hS (fun q h => hFc q h)⟩ rfl rfl hl.1 rfl (lv_room (Nat.le_of_ble_eq_true rfl)) dL_law_611 ⟨Nat.le_of_ble_eq_true rfl, Nat.le_of_ble_eq_true rfl⟩) hS (fun q _ h => hFc q h) (fun q h => hFc q h) (fun r9 u t H1 locs ht9 hvm hw hB hz1 hk1 hS => ?_)
  refine W.widen (k := 201) (n := 3006) (by omega) (by omega) ?_
  have hP := zKeep hP hk1
  generalize H1 = H at hP hS ⊢
  have hP : va_P D vwCl ([(h0, .inr (17, zHS a)), ((a 0), .inr (6, [.ref a1, .ref a2, .int 0])), (a1, .inl (cN, 30, .inl (fun _ => 0))), ((a 1), .inl (cE, 5, .inr (.inr (.inr (.inr (fun _ => none)))))), ((a 2), .inr (11, [.ref p1, .ref p2, .ref p3, .int 0, .long 0])), ((a 7), .inr (10, [.ref g, .int 0])), (g, .inl (cG, 8, .inr (.inr (.inr (.inr og))))), (b0, .inr (5, [.int 0, .ref dz, .int 0])), (b1, .inr (5, [.int 0, .ref dz, .int 0])), (b3, .inr (5, [.int 0, .ref dz, .int 0])), (oL, .inl (cL, 1, .inr (.inl (fun _ => 0)))), (oD, .inl (cD, 1, .inr (.inr (.inr (.inl (fun _ => 0)))))), (mo, .inr (23, [.int 1, .ref b0, .ref b1, .ref b2, .ref b3, .int 0, .int 0, .long 0])), (b2, .inr (5, [.int 0, .ref dz, .int 0]))] ++ va_pl LR (zrow cI)) H := hP
  subst hw
  refine lv_iload hx hb dL_law_614 (lv_at hl 1 rfl) ?_
  refine lv_icmp_eq (tgt := 621) hx hb dL_law_616 (by decide) (fun _ => ?_) (fun c => absurd (by decide) c)
  refine lv_iload hx hb dL_law_621 (lv_at hl 1 rfl) ?_
  refine lv_if_ne (tgt := 638) hx hb dL_law_623 (by decide) (fun _ => ?_) (fun c => absurd c (by decide))
  refine lv_goto (tgt := 2497) hx hb dL_law_638 (by decide) ?_
  refine W.widen (k := 600) (n := 8000) (by omega) (by omega) ?_
  exact kk H _ hS ls (lv_sub hl [2, 7] rfl)

def w_lc_heatOf : List Cond := .methodLink RL 160 yL_heatOf :: ([.methodLink RL 160 yL_heatOf, .static yL_heatOf, .initialized RL, .methodLink RL 162 yX17_heatOf, .instanceMethod yX17_heatOf, .selects RX17 yX17_heatOf yX17_heatOf, .initialized RX17, .methodLink RL 134 yX17_thrown, .instanceMethod yX17_thrown, .selects RX17 yX17_thrown yX17_thrown] ++ (zL_heatOf_ws ++ (zX17_heatOf_ws ++ (zX17_thrown_ws ++ ([])))))
set_option maxHeartbeats 4000000 in
set_option maxRecDepth 100000 in
theorem w_lc_heatOf_in : ∀ w ∈ w_lc_heatOf, w ∈ lw_tbl := by decide +kernel
set_option maxHeartbeats 4000000 in
set_option maxRecDepth 100000 in
/-- the law's call of heatOf -/
theorem lc_heatOf {p : Program} {e : Env} {s : State} {m : MethodId} {below : List Frame} {meth : Method} {c : Code} {A : Nat → Prop} {Q : State → Prop} {b : Nat} {xs : Nat → Int32} (l : Launch) (hst : l.stackTraces = false) (D : va_G) (h0 : Nat) (a : Nat → Nat) (a1 a2 cN cE p1 p2 p3 g : Nat) (og : Nat → Option Nat) (LR : List Nat) (cG cI : Nat) (mo b0 b1 b2 b3 dz sa va oL oD cL cD : Nat) (x1 x2 x3 x4 x5 x6 : Int32) (hx : p.tables.exec = Jvm.exec) (hb : c.code = cL_law) (hml : c.maxLocals = 9) (hts : ∀ w ∈ w_lc_heatOf, w.before #[Value.ref b] s = true) (hown : s.vm.findClass RL = some m.cls) (hX : va_X b 7 xs s s.heap) (hbl : b < s.heap.size) (hA : ∀ q : Nat, s.heap.size ≤ q → A q) (hbA : ¬ A b) (hz : zX A s s.heap) (hm : zMS dz sa va A s s.heap) (hg : ∀ i, i < 8 → ∃ y, og i = some y ∧ y ∈ LR) (e1 : xs (1 : Int32).toNatClampNeg = x1) (e2 : xs (2 : Int32).toNatClampNeg = x2) (e3 : xs (3 : Int32).toNatClampNeg = x3) (e4 : xs (4 : Int32).toNatClampNeg = x4) (e5 : xs (5 : Int32).toNatClampNeg = x5) (e6 : xs (6 : Int32).toNatClampNeg = x6) (kk : ∀ (H : Heap) (locs : List Loc), va_S A s.heap H locs → ∀ ls : Array Slot, lv_has ls 9 [(0, .ref b), (5, .int 0)] → W p l e room_1 s m #[Value.ref b] below meth c H locs 600 8000 Q (F0 m 2497 ls [])) (H : Heap) (locs : List Loc) (ls : Array Slot) (hP : va_P D vwCl ([(h0, .inr (17, zHS a)), ((a 0), .inr (6, [.ref a1, .ref a2, .int 0])), (a1, .inl (cN, 30, .inl (fun _ => 0))), ((a 1), .inl (cE, 5, .inr (.inr (.inr (.inr (fun _ => none)))))), ((a 2), .inr (11, [.ref p1, .ref p2, .ref p3, .int 0, .long 0])), ((a 7), .inr (10, [.ref g, .int 0])), (g, .inl (cG, 8, .inr (.inr (.inr (.inr og))))), (mo, .inr (23, [.int 0, .ref b0, .ref b1, .ref b2, .ref b3, .int 0, .int 0, .long 0])), (b0, .inr (5, [.int 0, .ref dz, .int 0])), (b1, .inr (5, [.int 0, .ref dz, .int 0])), (b2, .inr (5, [.int 0, .ref dz, .int 0])), (b3, .inr (5, [.int 0, .ref dz, .int 0])), (oL, .inl (cL, 1, .inr (.inl (fun _ => 0)))), (oD, .inl (cD, 1, .inr (.inr (.inr (.inl (fun _ => 0))))))] ++ va_pl LR (zrow cI)) H) (hD : va_D A ([(h0, .inr (17, zHS a)), ((a 0), .inr (6, [.ref a1, .ref a2, .int 0])), (a1, .inl (cN, 30, .inl (fun _ => 0))), ((a 1), .inl (cE, 5, .inr (.inr (.inr (.inr (fun _ => none)))))), ((a 2), .inr (11, [.ref p1, .ref p2, .ref p3, .int 0, .long 0])), ((a 7), .inr (10, [.ref g, .int 0])), (g, .inl (cG, 8, .inr (.inr (.inr (.inr og))))), (mo, .inr (23, [.int 0, .ref b0, .ref b1, .ref b2, .ref b3, .int 0, .int 0, .long 0])), (b0, .inr (5, [.int 0, .ref dz, .int 0])), (b1, .inr (5, [.int 0, .ref dz, .int 0])), (b2, .inr (5, [.int 0, .ref dz, .int 0])), (b3, .inr (5, [.int 0, .ref dz, .int 0])), (oL, .inl (cL, 1, .inr (.inl (fun _ => 0)))), (oD, .inl (cD, 1, .inr (.inr (.inr (.inl (fun _ => 0))))))] ++ va_pl LR (zrow cI))) (hK : va_K D vwCl [(cN, .int), (cE, .object "HeatStadium$Event"), (cG, .array .int), (cI, .int), (cL, .long), (cD, .double)] s) (hS : va_S A s.heap H locs) (hl : lv_has ls 9 [(0, .ref b), (1, .ref h0), (2, .ref mo), (3, .ref oL), (4, .ref oD), (5, .int 0)]) : W p l e room_1 s m #[Value.ref b] below meth c H locs 200 3000 Q (F0 m 697 ls []) := by
  refine lv_aload_n hx hb dL_law_697 rfl (lv_at hl 1 rfl) ?_
  refine lv_aload_n hx hb dL_law_698 rfl (lv_at hl 0 rfl) ?_
  refine lv_iload hx hb dL_law_699 (lv_at hl 5 rfl) ?_
  refine lv_iconst (v := 1) hx hb dL_law_701 (by decide) ?_
  refine lv_iadd hx hb dL_law_702 ?_
  refine lv_topi (fun z1 ez1 => ?_)
  obtain rfl : z1 = 1 := ez1.trans (by decide)
  refine va_sld hx hb hX hbl hbA hS (show vp_in 1 7 by unfold vp_in; decide) dL_law_703 ?_
  rw [e1]
  refine lv_aload_n hx hb dL_law_704 rfl (lv_at hl 0 rfl) ?_
  refine lv_iload hx hb dL_law_705 (lv_at hl 5 rfl) ?_
  refine lv_iconst (v := 2) hx hb dL_law_707 (by decide) ?_
  refine lv_iadd hx hb dL_law_708 ?_
  refine lv_topi (fun z2 ez2 => ?_)
  obtain rfl : z2 = 2 := ez2.trans (by decide)
  refine va_sld hx hb hX hbl hbA hS (show vp_in 2 7 by unfold vp_in; decide) dL_law_709 ?_
  rw [e2]
  refine lv_aload_n hx hb dL_law_710 rfl (lv_at hl 3 rfl) ?_
  have hPc := hP.sub (ws' := [(h0, .inr (17, zHS a))]) [0] rfl
  have hDc := hD.sub (ws' := [(h0, .inr (17, zHS a))]) [0] (by decide) rfl
  have hKc := hK.sub (tys' := []) [] rfl
  have hFc : ∀ q : Nat, H.size ≤ q → A q := fun q h => hA q (Nat.le_trans hS.1 h)
  refine vx_calli (vx_runSX (As := [.ref h0, .int x1, .int x2, .ref oL]) (rest := []) ⟨hx, hb, hml, hown, hts⟩ (cl_heatOf l hst D H.size h0 a x1 x2 oL) (vx_cwSW 4 hts (goodIn_app (goodIn_of _ (by decide +kernel)) (goodIn_sub (fun _ h => List.mem_cons_of_mem _ (List.mem_append_right _ (List.mem_append_left _ h))) zL_heatOf_ws_good)) rfl rfl rfl (by decide +kernel) ⟨Nat.le_of_ble_eq_true rfl, Nat.le_of_ble_eq_true rfl⟩) ⟨zPre.blind, zPre.mk hPc hKc hDc hz hS (fun q h => hFc q h)⟩ rfl rfl hl.1 rfl (lv_room (Nat.le_of_ble_eq_true rfl)) dL_law_711 ⟨Nat.le_of_ble_eq_true rfl, Nat.le_of_ble_eq_true rfl⟩) hS (fun q _ h => hFc q h) (fun q h => hFc q h) (fun q _ h => hFc q h) (fun E9 ce q9 u t H1 locs ht9 hvm hpx hBX hz1 hk1 hS hcell hv9 hcl => ?_) (fun r9 u t H1 locs ht9 hvm hw hB hz1 hk1 hS => ?_)
  · exact False.elim hpx
  refine W.widen (k := 201) (n := 3006) (by omega) (by omega) ?_
  have hP := zKeep hP hk1
  generalize H1 = H at hP hS ⊢
  have hP : va_P D vwCl ([(h0, .inr (17, zHS a)), ((a 0), .inr (6, [.ref a1, .ref a2, .int 0])), (a1, .inl (cN, 30, .inl (fun _ => 0))), ((a 1), .inl (cE, 5, .inr (.inr (.inr (.inr (fun _ => none)))))), ((a 2), .inr (11, [.ref p1, .ref p2, .ref p3, .int 0, .long 0])), ((a 7), .inr (10, [.ref g, .int 0])), (g, .inl (cG, 8, .inr (.inr (.inr (.inr og))))), (mo, .inr (23, [.int 0, .ref b0, .ref b1, .ref b2, .ref b3, .int 0, .int 0, .long 0])), (b0, .inr (5, [.int 0, .ref dz, .int 0])), (b1, .inr (5, [.int 0, .ref dz, .int 0])), (b2, .inr (5, [.int 0, .ref dz, .int 0])), (b3, .inr (5, [.int 0, .ref dz, .int 0])), (oL, .inl (cL, 1, .inr (.inl (fun _ => 0)))), (oD, .inl (cD, 1, .inr (.inr (.inr (.inl (fun _ => 0))))))] ++ va_pl LR (zrow cI)) H := hP
  subst hw
  refine lv_istore (lv' := [(6, .int 1), (0, .ref b), (1, .ref h0), (2, .ref mo), (3, .ref oL), (4, .ref oD), (5, .int 0)]) hx hb dL_law_714 hl (by decide) rfl (fun ls hl => ?_)
  refine lv_aload_n hx hb dL_law_716 rfl (lv_at hl 3 rfl) ?_
  refine lv_aload_n hx hb dL_law_717 rfl (lv_at hl 1 rfl) ?_
  refine lv_iload hx hb dL_law_718 (lv_at hl 6 rfl) ?_
  refine lv_iconst (v := 1) hx hb dL_law_720 (by decide) ?_
  refine lv_iadd hx hb dL_law_721 ?_
  refine lv_topi (fun z3 ez3 => ?_)
  obtain rfl : z3 = 1 := ez3.trans (by decide)
  refine va_sld hx hb hX hbl hbA hS (show vp_in 1 7 by unfold vp_in; decide) dL_law_722 ?_
  rw [e1]
  refine lv_aload_n hx hb dL_law_723 rfl (lv_at hl 1 rfl) ?_
  refine lv_iload hx hb dL_law_724 (lv_at hl 6 rfl) ?_
  refine lv_iconst (v := 2) hx hb dL_law_726 (by decide) ?_
  refine lv_iadd hx hb dL_law_727 ?_
  refine lv_topi (fun z4 ez4 => ?_)
  obtain rfl : z4 = 2 := ez4.trans (by decide)
  refine va_sld hx hb hX hbl hbA hS (show vp_in 2 7 by unfold vp_in; decide) dL_law_728 ?_
  rw [e2]
  have hPc := hP.sub (ws' := [(mo, .inr (23, [.int 0, .ref b0, .ref b1, .ref b2, .ref b3, .int 0, .int 0, .long 0])), (b2, .inr (5, [.int 0, .ref dz, .int 0]))]) [7, 10] rfl
  have hDc := hD.sub (ws' := [(mo, .inr (23, [.int 0, .ref b0, .ref b1, .ref b2, .ref b3, .int 0, .int 0, .long 0])), (b2, .inr (5, [.int 0, .ref dz, .int 0]))]) [7, 10] (by decide) rfl
  have hKc := hK.sub (tys' := []) [] rfl
  have hFc := va_free (wc := [(mo, .inr (23, [.int 0, .ref b0, .ref b1, .ref b2, .ref b3, .int 0, .int 0, .long 0])), (b2, .inr (5, [.int 0, .ref dz, .int 0]))]) hD hS hA [7, 10] rfl
  refine va_calli (va_runV (As := [.int x1, .int x2]) (rest := []) ⟨hx, hb, hml, hown, hts⟩ (cm_heatOf l hst D H.size mo b0 b1 b2 b3 dz 0 x1 x2) (cwV 2 hts (goodIn_app (goodIn_of _ (by decide +kernel)) (goodIn_sub (fun _ h => List.mem_cons_of_mem _ (List.mem_append_right _ (List.mem_append_right _ (List.mem_append_left _ h)))) zX17_heatOf_ws_good)) rfl rfl rfl (by decide +kernel) ⟨Nat.le_of_ble_eq_true rfl, Nat.le_of_ble_eq_true rfl⟩) ⟨zPre.blind, va_recv hKc hPc (ci := 23) (q0 := 0) rfl rfl, zPre.mk hPc hKc hDc hz hS (fun q h => hFc q h)⟩ rfl rfl hl.1 rfl (lv_room (Nat.le_of_ble_eq_true rfl)) dL_law_729 ⟨Nat.le_of_ble_eq_true rfl, Nat.le_of_ble_eq_true rfl⟩) hS (fun q _ h => hFc q h) (fun q h => hFc q h) (fun r9 u t H1 locs ht9 hvm hw hB hz1 hk1 hS => ?_)
  refine W.widen (k := 201) (n := 3006) (by omega) (by omega) ?_
  obtain ⟨hP1, hK1, hD1⟩ := hB
  rw [ht9] at hP1
  have hK1 := va_K.moved hvm.symm hK1
  obtain ⟨hP, hD⟩ := va_joinQ (wr := [(h0, .inr (17, zHS a)), ((a 0), .inr (6, [.ref a1, .ref a2, .int 0])), (a1, .inl (cN, 30, .inl (fun _ => 0))), ((a 1), .inl (cE, 5, .inr (.inr (.inr (.inr (fun _ => none)))))), ((a 2), .inr (11, [.ref p1, .ref p2, .ref p3, .int 0, .long 0])), ((a 7), .inr (10, [.ref g, .int 0])), (g, .inl (cG, 8, .inr (.inr (.inr (.inr og))))), (b0, .inr (5, [.int 0, .ref dz, .int 0])), (b1, .inr (5, [.int 0, .ref dz, .int 0])), (b3, .inr (5, [.int 0, .ref dz, .int 0])), (oL, .inl (cL, 1, .inr (.inl (fun _ => 0)))), (oD, .inl (cD, 1, .inr (.inr (.inr (.inl (fun _ => 0))))))]) (w1 := [(mo, .inr (23, [.int 1, .ref b0, .ref b1, .ref b2, .ref b3, .int 0, .int 0, .long 0])), (b2, .inr (5, [.int 0, .ref dz, .int 0]))]) hP hD [7, 10] [0, 1, 2, 3, 4, 5, 6, 8, 9, 11, 12, 13] rfl rfl (by decide) (by decide) hk1 hFc hP1 hD1
  have hK := (hK.sub (tys' := [(cN, .int), (cE, .object "HeatStadium$Event"), (cG, .array .int), (cI, .int), (cL, .long), (cD, .double)]) [0, 1, 2, 3, 4, 5] rfl).app hK1
  generalize H1 = H at hP hS ⊢
  have hP : va_P D vwCl ([(h0, .inr (17, zHS a)), ((a 0), .inr (6, [.ref a1, .ref a2, .int 0])), (a1, .inl (cN, 30, .inl (fun _ => 0))), ((a 1), .inl (cE, 5, .inr (.inr (.inr (.inr (fun _ => none)))))), ((a 2), .inr (11, [.ref p1, .ref p2, .ref p3, .int 0, .long 0])), ((a 7), .inr (10, [.ref g, .int 0])), (g, .inl (cG, 8, .inr (.inr (.inr (.inr og))))), (b0, .inr (5, [.int 0, .ref dz, .int 0])), (b1, .inr (5, [.int 0, .ref dz, .int 0])), (b3, .inr (5, [.int 0, .ref dz, .int 0])), (oL, .inl (cL, 1, .inr (.inl (fun _ => 0)))), (oD, .inl (cD, 1, .inr (.inr (.inr (.inl (fun _ => 0)))))), (mo, .inr (23, [.int 1, .ref b0, .ref b1, .ref b2, .ref b3, .int 0, .int 0, .long 0])), (b2, .inr (5, [.int 0, .ref dz, .int 0]))] ++ va_pl LR (zrow cI)) H := hP
  have hD : va_D A ([(h0, .inr (17, zHS a)), ((a 0), .inr (6, [.ref a1, .ref a2, .int 0])), (a1, .inl (cN, 30, .inl (fun _ => 0))), ((a 1), .inl (cE, 5, .inr (.inr (.inr (.inr (fun _ => none)))))), ((a 2), .inr (11, [.ref p1, .ref p2, .ref p3, .int 0, .long 0])), ((a 7), .inr (10, [.ref g, .int 0])), (g, .inl (cG, 8, .inr (.inr (.inr (.inr og))))), (b0, .inr (5, [.int 0, .ref dz, .int 0])), (b1, .inr (5, [.int 0, .ref dz, .int 0])), (b3, .inr (5, [.int 0, .ref dz, .int 0])), (oL, .inl (cL, 1, .inr (.inl (fun _ => 0)))), (oD, .inl (cD, 1, .inr (.inr (.inr (.inl (fun _ => 0)))))), (mo, .inr (23, [.int 1, .ref b0, .ref b1, .ref b2, .ref b3, .int 0, .int 0, .long 0])), (b2, .inr (5, [.int 0, .ref dz, .int 0]))] ++ va_pl LR (zrow cI)) := hD
  have hK : va_K D vwCl [(cN, .int), (cE, .object "HeatStadium$Event"), (cG, .array .int), (cI, .int), (cL, .long), (cD, .double)] s := hK
  subst hw
  refine lv_istore (lv' := [(7, .int 0), (6, .int 1), (0, .ref b), (1, .ref h0), (2, .ref mo), (3, .ref oL), (4, .ref oD), (5, .int 0)]) hx hb dL_law_732 hl (by decide) rfl (fun ls hl => ?_)
  refine lv_aload_n hx hb dL_law_734 rfl (lv_at hl 4 rfl) ?_
  have hPc := hP.sub (ws' := [(mo, .inr (23, [.int 1, .ref b0, .ref b1, .ref b2, .ref b3, .int 0, .int 0, .long 0]))]) [12] rfl
  have hDc := hD.sub (ws' := [(mo, .inr (23, [.int 1, .ref b0, .ref b1, .ref b2, .ref b3, .int 0, .int 0, .long 0]))]) [12] (by decide) rfl
  have hKc := hK.sub (tys' := []) [] rfl
  have hFc : ∀ q : Nat, H.size ≤ q → A q := fun q h => hA q (Nat.le_trans hS.1 h)
  refine va_calli (va_runV (As := []) (rest := []) ⟨hx, hb, hml, hown, hts⟩ (cm_thrown l hst D H.size mo b0 b1 b2 b3 dz 1) (cwV 0 hts (goodIn_app (goodIn_of _ (by decide +kernel)) (goodIn_sub (fun _ h => List.mem_cons_of_mem _ (List.mem_append_right _ (List.mem_append_right _ (List.mem_append_right _ (List.mem_append_left _ h))))) zX17_thrown_ws_good)) rfl rfl rfl (by decide +kernel) ⟨Nat.le_of_ble_eq_true rfl, Nat.le_of_ble_eq_true rfl⟩) ⟨zPre.blind, va_recv hKc hPc (ci := 23) (q0 := 0) rfl rfl, zPre.mk hPc hKc hDc hz hS (fun q h => hFc q h)⟩ rfl rfl hl.1 rfl (lv_room (Nat.le_of_ble_eq_true rfl)) dL_law_735 ⟨Nat.le_of_ble_eq_true rfl, Nat.le_of_ble_eq_true rfl⟩) hS (fun q _ h => hFc q h) (fun q h => hFc q h) (fun r9 u t H1 locs ht9 hvm hw hB hz1 hk1 hS => ?_)
  refine W.widen (k := 201) (n := 3006) (by omega) (by omega) ?_
  have hP := zKeep hP hk1
  generalize H1 = H at hP hS ⊢
  have hP : va_P D vwCl ([(h0, .inr (17, zHS a)), ((a 0), .inr (6, [.ref a1, .ref a2, .int 0])), (a1, .inl (cN, 30, .inl (fun _ => 0))), ((a 1), .inl (cE, 5, .inr (.inr (.inr (.inr (fun _ => none)))))), ((a 2), .inr (11, [.ref p1, .ref p2, .ref p3, .int 0, .long 0])), ((a 7), .inr (10, [.ref g, .int 0])), (g, .inl (cG, 8, .inr (.inr (.inr (.inr og))))), (b0, .inr (5, [.int 0, .ref dz, .int 0])), (b1, .inr (5, [.int 0, .ref dz, .int 0])), (b3, .inr (5, [.int 0, .ref dz, .int 0])), (oL, .inl (cL, 1, .inr (.inl (fun _ => 0)))), (oD, .inl (cD, 1, .inr (.inr (.inr (.inl (fun _ => 0)))))), (mo, .inr (23, [.int 1, .ref b0, .ref b1, .ref b2, .ref b3, .int 0, .int 0, .long 0])), (b2, .inr (5, [.int 0, .ref dz, .int 0]))] ++ va_pl LR (zrow cI)) H := hP
  subst hw
  refine lv_iload hx hb dL_law_738 (lv_at hl 1 rfl) ?_
  refine lv_icmp_eq (tgt := 745) hx hb dL_law_740 (by decide) (fun _ => ?_) (fun c => absurd (by decide) c)
  refine lv_iload hx hb dL_law_745 (lv_at hl 1 rfl) ?_
  refine lv_if_ne (tgt := 762) hx hb dL_law_747 (by decide) (fun _ => ?_) (fun c => absurd c (by decide))
  refine lv_goto (tgt := 2497) hx hb dL_law_762 (by decide) ?_
  refine W.widen (k := 600) (n := 8000) (by omega) (by omega) ?_
  exact kk H _ hS ls (lv_sub hl [2, 7] rfl)

def w_lc_laneOf : List Cond := .methodLink RL 163 yL_laneOf :: ([.methodLink RL 163 yL_laneOf, .static yL_laneOf, .initialized RL, .methodLink RL 165 yX17_laneOf, .instanceMethod yX17_laneOf, .selects RX17 yX17_laneOf yX17_laneOf, .initialized RX17, .methodLink RL 134 yX17_thrown, .instanceMethod yX17_thrown, .selects RX17 yX17_thrown yX17_thrown] ++ (zL_laneOf_ws ++ (zX17_laneOf_ws ++ (zX17_thrown_ws ++ ([])))))
set_option maxHeartbeats 4000000 in
set_option maxRecDepth 100000 in
theorem w_lc_laneOf_in : ∀ w ∈ w_lc_laneOf, w ∈ lw_tbl := by decide +kernel
set_option maxHeartbeats 4000000 in
set_option maxRecDepth 100000 in
/-- the law's call of laneOf -/
theorem lc_laneOf {p : Program} {e : Env} {s : State} {m : MethodId} {below : List Frame} {meth : Method} {c : Code} {A : Nat → Prop} {Q : State → Prop} {b : Nat} {xs : Nat → Int32} (l : Launch) (hst : l.stackTraces = false) (D : va_G) (h0 : Nat) (a : Nat → Nat) (a1 a2 cN cE p1 p2 p3 g : Nat) (og : Nat → Option Nat) (LR : List Nat) (cG cI : Nat) (mo b0 b1 b2 b3 dz sa va oL oD cL cD : Nat) (x1 x2 x3 x4 x5 x6 : Int32) (hx : p.tables.exec = Jvm.exec) (hb : c.code = cL_law) (hml : c.maxLocals = 9) (hts : ∀ w ∈ w_lc_laneOf, w.before #[Value.ref b] s = true) (hown : s.vm.findClass RL = some m.cls) (hX : va_X b 7 xs s s.heap) (hbl : b < s.heap.size) (hA : ∀ q : Nat, s.heap.size ≤ q → A q) (hbA : ¬ A b) (hz : zX A s s.heap) (hm : zMS dz sa va A s s.heap) (hg : ∀ i, i < 8 → ∃ y, og i = some y ∧ y ∈ LR) (e1 : xs (1 : Int32).toNatClampNeg = x1) (e2 : xs (2 : Int32).toNatClampNeg = x2) (e3 : xs (3 : Int32).toNatClampNeg = x3) (e4 : xs (4 : Int32).toNatClampNeg = x4) (e5 : xs (5 : Int32).toNatClampNeg = x5) (e6 : xs (6 : Int32).toNatClampNeg = x6) (kk : ∀ (H : Heap) (locs : List Loc), va_S A s.heap H locs → ∀ ls : Array Slot, lv_has ls 9 [(0, .ref b), (5, .int 0)] → W p l e room_1 s m #[Value.ref b] below meth c H locs 600 8000 Q (F0 m 2497 ls [])) (H : Heap) (locs : List Loc) (ls : Array Slot) (hP : va_P D vwCl ([(h0, .inr (17, zHS a)), ((a 0), .inr (6, [.ref a1, .ref a2, .int 0])), (a1, .inl (cN, 30, .inl (fun _ => 0))), ((a 1), .inl (cE, 5, .inr (.inr (.inr (.inr (fun _ => none)))))), ((a 2), .inr (11, [.ref p1, .ref p2, .ref p3, .int 0, .long 0])), ((a 7), .inr (10, [.ref g, .int 0])), (g, .inl (cG, 8, .inr (.inr (.inr (.inr og))))), (mo, .inr (23, [.int 0, .ref b0, .ref b1, .ref b2, .ref b3, .int 0, .int 0, .long 0])), (b0, .inr (5, [.int 0, .ref dz, .int 0])), (b1, .inr (5, [.int 0, .ref dz, .int 0])), (b2, .inr (5, [.int 0, .ref dz, .int 0])), (b3, .inr (5, [.int 0, .ref dz, .int 0])), (oL, .inl (cL, 1, .inr (.inl (fun _ => 0)))), (oD, .inl (cD, 1, .inr (.inr (.inr (.inl (fun _ => 0))))))] ++ va_pl LR (zrow cI)) H) (hD : va_D A ([(h0, .inr (17, zHS a)), ((a 0), .inr (6, [.ref a1, .ref a2, .int 0])), (a1, .inl (cN, 30, .inl (fun _ => 0))), ((a 1), .inl (cE, 5, .inr (.inr (.inr (.inr (fun _ => none)))))), ((a 2), .inr (11, [.ref p1, .ref p2, .ref p3, .int 0, .long 0])), ((a 7), .inr (10, [.ref g, .int 0])), (g, .inl (cG, 8, .inr (.inr (.inr (.inr og))))), (mo, .inr (23, [.int 0, .ref b0, .ref b1, .ref b2, .ref b3, .int 0, .int 0, .long 0])), (b0, .inr (5, [.int 0, .ref dz, .int 0])), (b1, .inr (5, [.int 0, .ref dz, .int 0])), (b2, .inr (5, [.int 0, .ref dz, .int 0])), (b3, .inr (5, [.int 0, .ref dz, .int 0])), (oL, .inl (cL, 1, .inr (.inl (fun _ => 0)))), (oD, .inl (cD, 1, .inr (.inr (.inr (.inl (fun _ => 0))))))] ++ va_pl LR (zrow cI))) (hK : va_K D vwCl [(cN, .int), (cE, .object "HeatStadium$Event"), (cG, .array .int), (cI, .int), (cL, .long), (cD, .double)] s) (hS : va_S A s.heap H locs) (hl : lv_has ls 9 [(0, .ref b), (1, .ref h0), (2, .ref mo), (3, .ref oL), (4, .ref oD), (5, .int 0)]) : W p l e room_1 s m #[Value.ref b] below meth c H locs 200 3000 Q (F0 m 765 ls []) := by
  refine lv_aload_n hx hb dL_law_765 rfl (lv_at hl 1 rfl) ?_
  refine lv_aload_n hx hb dL_law_766 rfl (lv_at hl 0 rfl) ?_
  refine lv_iload hx hb dL_law_767 (lv_at hl 5 rfl) ?_
  refine lv_iconst (v := 1) hx hb dL_law_769 (by decide) ?_
  refine lv_iadd hx hb dL_law_770 ?_
  refine lv_topi (fun z1 ez1 => ?_)
  obtain rfl : z1 = 1 := ez1.trans (by decide)
  refine va_sld hx hb hX hbl hbA hS (show vp_in 1 7 by unfold vp_in; decide) dL_law_771 ?_
  rw [e1]
  refine lv_aload_n hx hb dL_law_772 rfl (lv_at hl 0 rfl) ?_
  refine lv_iload hx hb dL_law_773 (lv_at hl 5 rfl) ?_
  refine lv_iconst (v := 2) hx hb dL_law_775 (by decide) ?_
  refine lv_iadd hx hb dL_law_776 ?_
  refine lv_topi (fun z2 ez2 => ?_)
  obtain rfl : z2 = 2 := ez2.trans (by decide)
  refine va_sld hx hb hX hbl hbA hS (show vp_in 2 7 by unfold vp_in; decide) dL_law_777 ?_
  rw [e2]
  refine lv_aload_n hx hb dL_law_778 rfl (lv_at hl 0 rfl) ?_
  refine lv_iload hx hb dL_law_779 (lv_at hl 5 rfl) ?_
  refine lv_iconst (v := 3) hx hb dL_law_781 (by decide) ?_
  refine lv_iadd hx hb dL_law_782 ?_
  refine lv_topi (fun z3 ez3 => ?_)
  obtain rfl : z3 = 3 := ez3.trans (by decide)
  refine va_sld hx hb hX hbl hbA hS (show vp_in 3 7 by unfold vp_in; decide) dL_law_783 ?_
  rw [e3]
  refine lv_aload_n hx hb dL_law_784 rfl (lv_at hl 3 rfl) ?_
  have hPc := hP.sub (ws' := [(h0, .inr (17, zHS a))]) [0] rfl
  have hDc := hD.sub (ws' := [(h0, .inr (17, zHS a))]) [0] (by decide) rfl
  have hKc := hK.sub (tys' := []) [] rfl
  have hFc : ∀ q : Nat, H.size ≤ q → A q := fun q h => hA q (Nat.le_trans hS.1 h)
  refine vx_calli (vx_runSX (As := [.ref h0, .int x1, .int x2, .int x3, .ref oL]) (rest := []) ⟨hx, hb, hml, hown, hts⟩ (cl_laneOf l hst D H.size h0 a x1 x2 x3 oL) (vx_cwSW 5 hts (goodIn_app (goodIn_of _ (by decide +kernel)) (goodIn_sub (fun _ h => List.mem_cons_of_mem _ (List.mem_append_right _ (List.mem_append_left _ h))) zL_laneOf_ws_good)) rfl rfl rfl (by decide +kernel) ⟨Nat.le_of_ble_eq_true rfl, Nat.le_of_ble_eq_true rfl⟩) ⟨zPre.blind, zPre.mk hPc hKc hDc hz hS (fun q h => hFc q h)⟩ rfl rfl hl.1 rfl (lv_room (Nat.le_of_ble_eq_true rfl)) dL_law_785 ⟨Nat.le_of_ble_eq_true rfl, Nat.le_of_ble_eq_true rfl⟩) hS (fun q _ h => hFc q h) (fun q h => hFc q h) (fun q _ h => hFc q h) (fun E9 ce q9 u t H1 locs ht9 hvm hpx hBX hz1 hk1 hS hcell hv9 hcl => ?_) (fun r9 u t H1 locs ht9 hvm hw hB hz1 hk1 hS => ?_)
  · exact False.elim hpx
  refine W.widen (k := 201) (n := 3006) (by omega) (by omega) ?_
  have hP := zKeep hP hk1
  generalize H1 = H at hP hS ⊢
  have hP : va_P D vwCl ([(h0, .inr (17, zHS a)), ((a 0), .inr (6, [.ref a1, .ref a2, .int 0])), (a1, .inl (cN, 30, .inl (fun _ => 0))), ((a 1), .inl (cE, 5, .inr (.inr (.inr (.inr (fun _ => none)))))), ((a 2), .inr (11, [.ref p1, .ref p2, .ref p3, .int 0, .long 0])), ((a 7), .inr (10, [.ref g, .int 0])), (g, .inl (cG, 8, .inr (.inr (.inr (.inr og))))), (mo, .inr (23, [.int 0, .ref b0, .ref b1, .ref b2, .ref b3, .int 0, .int 0, .long 0])), (b0, .inr (5, [.int 0, .ref dz, .int 0])), (b1, .inr (5, [.int 0, .ref dz, .int 0])), (b2, .inr (5, [.int 0, .ref dz, .int 0])), (b3, .inr (5, [.int 0, .ref dz, .int 0])), (oL, .inl (cL, 1, .inr (.inl (fun _ => 0)))), (oD, .inl (cD, 1, .inr (.inr (.inr (.inl (fun _ => 0))))))] ++ va_pl LR (zrow cI)) H := hP
  subst hw
  refine lv_istore (lv' := [(6, .int 1), (0, .ref b), (1, .ref h0), (2, .ref mo), (3, .ref oL), (4, .ref oD), (5, .int 0)]) hx hb dL_law_788 hl (by decide) rfl (fun ls hl => ?_)
  refine lv_aload_n hx hb dL_law_790 rfl (lv_at hl 3 rfl) ?_
  refine lv_aload_n hx hb dL_law_791 rfl (lv_at hl 1 rfl) ?_
  refine lv_iload hx hb dL_law_792 (lv_at hl 6 rfl) ?_
  refine lv_iconst (v := 1) hx hb dL_law_794 (by decide) ?_
  refine lv_iadd hx hb dL_law_795 ?_
  refine lv_topi (fun z4 ez4 => ?_)
  obtain rfl : z4 = 1 := ez4.trans (by decide)
  refine va_sld hx hb hX hbl hbA hS (show vp_in 1 7 by unfold vp_in; decide) dL_law_796 ?_
  rw [e1]
  refine lv_aload_n hx hb dL_law_797 rfl (lv_at hl 1 rfl) ?_
  refine lv_iload hx hb dL_law_798 (lv_at hl 6 rfl) ?_
  refine lv_iconst (v := 2) hx hb dL_law_800 (by decide) ?_
  refine lv_iadd hx hb dL_law_801 ?_
  refine lv_topi (fun z5 ez5 => ?_)
  obtain rfl : z5 = 2 := ez5.trans (by decide)
  refine va_sld hx hb hX hbl hbA hS (show vp_in 2 7 by unfold vp_in; decide) dL_law_802 ?_
  rw [e2]
  refine lv_aload_n hx hb dL_law_803 rfl (lv_at hl 1 rfl) ?_
  refine lv_iload hx hb dL_law_804 (lv_at hl 6 rfl) ?_
  refine lv_iconst (v := 3) hx hb dL_law_806 (by decide) ?_
  refine lv_iadd hx hb dL_law_807 ?_
  refine lv_topi (fun z6 ez6 => ?_)
  obtain rfl : z6 = 3 := ez6.trans (by decide)
  refine va_sld hx hb hX hbl hbA hS (show vp_in 3 7 by unfold vp_in; decide) dL_law_808 ?_
  rw [e3]
  have hPc := hP.sub (ws' := [(mo, .inr (23, [.int 0, .ref b0, .ref b1, .ref b2, .ref b3, .int 0, .int 0, .long 0])), (b2, .inr (5, [.int 0, .ref dz, .int 0]))]) [7, 10] rfl
  have hDc := hD.sub (ws' := [(mo, .inr (23, [.int 0, .ref b0, .ref b1, .ref b2, .ref b3, .int 0, .int 0, .long 0])), (b2, .inr (5, [.int 0, .ref dz, .int 0]))]) [7, 10] (by decide) rfl
  have hKc := hK.sub (tys' := []) [] rfl
  have hFc := va_free (wc := [(mo, .inr (23, [.int 0, .ref b0, .ref b1, .ref b2, .ref b3, .int 0, .int 0, .long 0])), (b2, .inr (5, [.int 0, .ref dz, .int 0]))]) hD hS hA [7, 10] rfl
  refine va_calli (va_runV (As := [.int x1, .int x2, .int x3]) (rest := []) ⟨hx, hb, hml, hown, hts⟩ (cm_laneOf l hst D H.size mo b0 b1 b2 b3 dz 0 x1 x2 x3) (cwV 3 hts (goodIn_app (goodIn_of _ (by decide +kernel)) (goodIn_sub (fun _ h => List.mem_cons_of_mem _ (List.mem_append_right _ (List.mem_append_right _ (List.mem_append_left _ h)))) zX17_laneOf_ws_good)) rfl rfl rfl (by decide +kernel) ⟨Nat.le_of_ble_eq_true rfl, Nat.le_of_ble_eq_true rfl⟩) ⟨zPre.blind, va_recv hKc hPc (ci := 23) (q0 := 0) rfl rfl, zPre.mk hPc hKc hDc hz hS (fun q h => hFc q h)⟩ rfl rfl hl.1 rfl (lv_room (Nat.le_of_ble_eq_true rfl)) dL_law_809 ⟨Nat.le_of_ble_eq_true rfl, Nat.le_of_ble_eq_true rfl⟩) hS (fun q _ h => hFc q h) (fun q h => hFc q h) (fun r9 u t H1 locs ht9 hvm hw hB hz1 hk1 hS => ?_)
  refine W.widen (k := 201) (n := 3006) (by omega) (by omega) ?_
  obtain ⟨hP1, hK1, hD1⟩ := hB
  rw [ht9] at hP1
  have hK1 := va_K.moved hvm.symm hK1
  obtain ⟨hP, hD⟩ := va_joinQ (wr := [(h0, .inr (17, zHS a)), ((a 0), .inr (6, [.ref a1, .ref a2, .int 0])), (a1, .inl (cN, 30, .inl (fun _ => 0))), ((a 1), .inl (cE, 5, .inr (.inr (.inr (.inr (fun _ => none)))))), ((a 2), .inr (11, [.ref p1, .ref p2, .ref p3, .int 0, .long 0])), ((a 7), .inr (10, [.ref g, .int 0])), (g, .inl (cG, 8, .inr (.inr (.inr (.inr og))))), (b0, .inr (5, [.int 0, .ref dz, .int 0])), (b1, .inr (5, [.int 0, .ref dz, .int 0])), (b3, .inr (5, [.int 0, .ref dz, .int 0])), (oL, .inl (cL, 1, .inr (.inl (fun _ => 0)))), (oD, .inl (cD, 1, .inr (.inr (.inr (.inl (fun _ => 0))))))]) (w1 := [(mo, .inr (23, [.int 1, .ref b0, .ref b1, .ref b2, .ref b3, .int 0, .int 0, .long 0])), (b2, .inr (5, [.int 0, .ref dz, .int 0]))]) hP hD [7, 10] [0, 1, 2, 3, 4, 5, 6, 8, 9, 11, 12, 13] rfl rfl (by decide) (by decide) hk1 hFc hP1 hD1
  have hK := (hK.sub (tys' := [(cN, .int), (cE, .object "HeatStadium$Event"), (cG, .array .int), (cI, .int), (cL, .long), (cD, .double)]) [0, 1, 2, 3, 4, 5] rfl).app hK1
  generalize H1 = H at hP hS ⊢
  have hP : va_P D vwCl ([(h0, .inr (17, zHS a)), ((a 0), .inr (6, [.ref a1, .ref a2, .int 0])), (a1, .inl (cN, 30, .inl (fun _ => 0))), ((a 1), .inl (cE, 5, .inr (.inr (.inr (.inr (fun _ => none)))))), ((a 2), .inr (11, [.ref p1, .ref p2, .ref p3, .int 0, .long 0])), ((a 7), .inr (10, [.ref g, .int 0])), (g, .inl (cG, 8, .inr (.inr (.inr (.inr og))))), (b0, .inr (5, [.int 0, .ref dz, .int 0])), (b1, .inr (5, [.int 0, .ref dz, .int 0])), (b3, .inr (5, [.int 0, .ref dz, .int 0])), (oL, .inl (cL, 1, .inr (.inl (fun _ => 0)))), (oD, .inl (cD, 1, .inr (.inr (.inr (.inl (fun _ => 0)))))), (mo, .inr (23, [.int 1, .ref b0, .ref b1, .ref b2, .ref b3, .int 0, .int 0, .long 0])), (b2, .inr (5, [.int 0, .ref dz, .int 0]))] ++ va_pl LR (zrow cI)) H := hP
  have hD : va_D A ([(h0, .inr (17, zHS a)), ((a 0), .inr (6, [.ref a1, .ref a2, .int 0])), (a1, .inl (cN, 30, .inl (fun _ => 0))), ((a 1), .inl (cE, 5, .inr (.inr (.inr (.inr (fun _ => none)))))), ((a 2), .inr (11, [.ref p1, .ref p2, .ref p3, .int 0, .long 0])), ((a 7), .inr (10, [.ref g, .int 0])), (g, .inl (cG, 8, .inr (.inr (.inr (.inr og))))), (b0, .inr (5, [.int 0, .ref dz, .int 0])), (b1, .inr (5, [.int 0, .ref dz, .int 0])), (b3, .inr (5, [.int 0, .ref dz, .int 0])), (oL, .inl (cL, 1, .inr (.inl (fun _ => 0)))), (oD, .inl (cD, 1, .inr (.inr (.inr (.inl (fun _ => 0)))))), (mo, .inr (23, [.int 1, .ref b0, .ref b1, .ref b2, .ref b3, .int 0, .int 0, .long 0])), (b2, .inr (5, [.int 0, .ref dz, .int 0]))] ++ va_pl LR (zrow cI)) := hD
  have hK : va_K D vwCl [(cN, .int), (cE, .object "HeatStadium$Event"), (cG, .array .int), (cI, .int), (cL, .long), (cD, .double)] s := hK
  subst hw
  refine lv_istore (lv' := [(7, .int 0), (6, .int 1), (0, .ref b), (1, .ref h0), (2, .ref mo), (3, .ref oL), (4, .ref oD), (5, .int 0)]) hx hb dL_law_812 hl (by decide) rfl (fun ls hl => ?_)
  refine lv_aload_n hx hb dL_law_814 rfl (lv_at hl 4 rfl) ?_
  have hPc := hP.sub (ws' := [(mo, .inr (23, [.int 1, .ref b0, .ref b1, .ref b2, .ref b3, .int 0, .int 0, .long 0]))]) [12] rfl
  have hDc := hD.sub (ws' := [(mo, .inr (23, [.int 1, .ref b0, .ref b1, .ref b2, .ref b3, .int 0, .int 0, .long 0]))]) [12] (by decide) rfl
  have hKc := hK.sub (tys' := []) [] rfl
  have hFc : ∀ q : Nat, H.size ≤ q → A q := fun q h => hA q (Nat.le_trans hS.1 h)
  refine va_calli (va_runV (As := []) (rest := []) ⟨hx, hb, hml, hown, hts⟩ (cm_thrown l hst D H.size mo b0 b1 b2 b3 dz 1) (cwV 0 hts (goodIn_app (goodIn_of _ (by decide +kernel)) (goodIn_sub (fun _ h => List.mem_cons_of_mem _ (List.mem_append_right _ (List.mem_append_right _ (List.mem_append_right _ (List.mem_append_left _ h))))) zX17_thrown_ws_good)) rfl rfl rfl (by decide +kernel) ⟨Nat.le_of_ble_eq_true rfl, Nat.le_of_ble_eq_true rfl⟩) ⟨zPre.blind, va_recv hKc hPc (ci := 23) (q0 := 0) rfl rfl, zPre.mk hPc hKc hDc hz hS (fun q h => hFc q h)⟩ rfl rfl hl.1 rfl (lv_room (Nat.le_of_ble_eq_true rfl)) dL_law_815 ⟨Nat.le_of_ble_eq_true rfl, Nat.le_of_ble_eq_true rfl⟩) hS (fun q _ h => hFc q h) (fun q h => hFc q h) (fun r9 u t H1 locs ht9 hvm hw hB hz1 hk1 hS => ?_)
  refine W.widen (k := 201) (n := 3006) (by omega) (by omega) ?_
  have hP := zKeep hP hk1
  generalize H1 = H at hP hS ⊢
  have hP : va_P D vwCl ([(h0, .inr (17, zHS a)), ((a 0), .inr (6, [.ref a1, .ref a2, .int 0])), (a1, .inl (cN, 30, .inl (fun _ => 0))), ((a 1), .inl (cE, 5, .inr (.inr (.inr (.inr (fun _ => none)))))), ((a 2), .inr (11, [.ref p1, .ref p2, .ref p3, .int 0, .long 0])), ((a 7), .inr (10, [.ref g, .int 0])), (g, .inl (cG, 8, .inr (.inr (.inr (.inr og))))), (b0, .inr (5, [.int 0, .ref dz, .int 0])), (b1, .inr (5, [.int 0, .ref dz, .int 0])), (b3, .inr (5, [.int 0, .ref dz, .int 0])), (oL, .inl (cL, 1, .inr (.inl (fun _ => 0)))), (oD, .inl (cD, 1, .inr (.inr (.inr (.inl (fun _ => 0)))))), (mo, .inr (23, [.int 1, .ref b0, .ref b1, .ref b2, .ref b3, .int 0, .int 0, .long 0])), (b2, .inr (5, [.int 0, .ref dz, .int 0]))] ++ va_pl LR (zrow cI)) H := hP
  subst hw
  refine lv_iload hx hb dL_law_818 (lv_at hl 1 rfl) ?_
  refine lv_icmp_eq (tgt := 825) hx hb dL_law_820 (by decide) (fun _ => ?_) (fun c => absurd (by decide) c)
  refine lv_iload hx hb dL_law_825 (lv_at hl 1 rfl) ?_
  refine lv_if_ne (tgt := 842) hx hb dL_law_827 (by decide) (fun _ => ?_) (fun c => absurd c (by decide))
  refine lv_goto (tgt := 2497) hx hb dL_law_842 (by decide) ?_
  refine W.widen (k := 600) (n := 8000) (by omega) (by omega) ?_
  exact kk H _ hS ls (lv_sub hl [2, 7] rfl)

def w_lc_time : List Cond := .methodLink RL 166 yL_time :: ([.methodLink RL 166 yL_time, .static yL_time, .initialized RL, .methodLink RL 169 yX17_time, .instanceMethod yX17_time, .selects RX17 yX17_time yX17_time, .initialized RX17, .methodLink RL 134 yX17_thrown, .instanceMethod yX17_thrown, .selects RX17 yX17_thrown yX17_thrown] ++ (zL_time_ws ++ (zX17_time_ws ++ (zX17_thrown_ws ++ ([])))))
set_option maxHeartbeats 4000000 in
set_option maxRecDepth 100000 in
theorem w_lc_time_in : ∀ w ∈ w_lc_time, w ∈ lw_tbl := by decide +kernel
set_option maxHeartbeats 4000000 in
set_option maxRecDepth 100000 in
/-- the law's call of time -/
theorem lc_time {p : Program} {e : Env} {s : State} {m : MethodId} {below : List Frame} {meth : Method} {c : Code} {A : Nat → Prop} {Q : State → Prop} {b : Nat} {xs : Nat → Int32} (l : Launch) (hst : l.stackTraces = false) (D : va_G) (h0 : Nat) (a : Nat → Nat) (a1 a2 cN cE p1 p2 p3 g : Nat) (og : Nat → Option Nat) (LR : List Nat) (cG cI : Nat) (mo b0 b1 b2 b3 dz sa va oL oD cL cD : Nat) (x1 x2 x3 x4 x5 x6 : Int32) (hx : p.tables.exec = Jvm.exec) (hb : c.code = cL_law) (hml : c.maxLocals = 9) (hts : ∀ w ∈ w_lc_time, w.before #[Value.ref b] s = true) (hown : s.vm.findClass RL = some m.cls) (hX : va_X b 7 xs s s.heap) (hbl : b < s.heap.size) (hA : ∀ q : Nat, s.heap.size ≤ q → A q) (hbA : ¬ A b) (hz : zX A s s.heap) (hm : zMS dz sa va A s s.heap) (hg : ∀ i, i < 8 → ∃ y, og i = some y ∧ y ∈ LR) (e1 : xs (1 : Int32).toNatClampNeg = x1) (e2 : xs (2 : Int32).toNatClampNeg = x2) (e3 : xs (3 : Int32).toNatClampNeg = x3) (e4 : xs (4 : Int32).toNatClampNeg = x4) (e5 : xs (5 : Int32).toNatClampNeg = x5) (e6 : xs (6 : Int32).toNatClampNeg = x6) (kk : ∀ (H : Heap) (locs : List Loc), va_S A s.heap H locs → ∀ ls : Array Slot, lv_has ls 9 [(0, .ref b), (5, .int 0)] → W p l e room_1 s m #[Value.ref b] below meth c H locs 600 8000 Q (F0 m 2497 ls [])) (H : Heap) (locs : List Loc) (ls : Array Slot) (hP : va_P D vwCl ([(h0, .inr (17, zHS a)), ((a 0), .inr (6, [.ref a1, .ref a2, .int 0])), (a1, .inl (cN, 30, .inl (fun _ => 0))), ((a 1), .inl (cE, 5, .inr (.inr (.inr (.inr (fun _ => none)))))), ((a 2), .inr (11, [.ref p1, .ref p2, .ref p3, .int 0, .long 0])), ((a 7), .inr (10, [.ref g, .int 0])), (g, .inl (cG, 8, .inr (.inr (.inr (.inr og))))), (mo, .inr (23, [.int 0, .ref b0, .ref b1, .ref b2, .ref b3, .int 0, .int 0, .long 0])), (b0, .inr (5, [.int 0, .ref dz, .int 0])), (b1, .inr (5, [.int 0, .ref dz, .int 0])), (b2, .inr (5, [.int 0, .ref dz, .int 0])), (b3, .inr (5, [.int 0, .ref dz, .int 0])), (oL, .inl (cL, 1, .inr (.inl (fun _ => 0)))), (oD, .inl (cD, 1, .inr (.inr (.inr (.inl (fun _ => 0))))))] ++ va_pl LR (zrow cI)) H) (hD : va_D A ([(h0, .inr (17, zHS a)), ((a 0), .inr (6, [.ref a1, .ref a2, .int 0])), (a1, .inl (cN, 30, .inl (fun _ => 0))), ((a 1), .inl (cE, 5, .inr (.inr (.inr (.inr (fun _ => none)))))), ((a 2), .inr (11, [.ref p1, .ref p2, .ref p3, .int 0, .long 0])), ((a 7), .inr (10, [.ref g, .int 0])), (g, .inl (cG, 8, .inr (.inr (.inr (.inr og))))), (mo, .inr (23, [.int 0, .ref b0, .ref b1, .ref b2, .ref b3, .int 0, .int 0, .long 0])), (b0, .inr (5, [.int 0, .ref dz, .int 0])), (b1, .inr (5, [.int 0, .ref dz, .int 0])), (b2, .inr (5, [.int 0, .ref dz, .int 0])), (b3, .inr (5, [.int 0, .ref dz, .int 0])), (oL, .inl (cL, 1, .inr (.inl (fun _ => 0)))), (oD, .inl (cD, 1, .inr (.inr (.inr (.inl (fun _ => 0))))))] ++ va_pl LR (zrow cI))) (hK : va_K D vwCl [(cN, .int), (cE, .object "HeatStadium$Event"), (cG, .array .int), (cI, .int), (cL, .long), (cD, .double)] s) (hS : va_S A s.heap H locs) (hl : lv_has ls 9 [(0, .ref b), (1, .ref h0), (2, .ref mo), (3, .ref oL), (4, .ref oD), (5, .int 0)]) : W p l e room_1 s m #[Value.ref b] below meth c H locs 200 3000 Q (F0 m 845 ls []) := by
  refine lv_aload_n hx hb dL_law_845 rfl (lv_at hl 1 rfl) ?_
  refine lv_aload_n hx hb dL_law_846 rfl (lv_at hl 0 rfl) ?_
  refine lv_iload hx hb dL_law_847 (lv_at hl 5 rfl) ?_
  refine lv_iconst (v := 1) hx hb dL_law_849 (by decide) ?_
  refine lv_iadd hx hb dL_law_850 ?_
  refine lv_topi (fun z1 ez1 => ?_)
  obtain rfl : z1 = 1 := ez1.trans (by decide)
  refine va_sld hx hb hX hbl hbA hS (show vp_in 1 7 by unfold vp_in; decide) dL_law_851 ?_
  rw [e1]
  refine lv_aload_n hx hb dL_law_852 rfl (lv_at hl 0 rfl) ?_
  refine lv_iload hx hb dL_law_853 (lv_at hl 5 rfl) ?_
  refine lv_iconst (v := 2) hx hb dL_law_855 (by decide) ?_
  refine lv_iadd hx hb dL_law_856 ?_
  refine lv_topi (fun z2 ez2 => ?_)
  obtain rfl : z2 = 2 := ez2.trans (by decide)
  refine va_sld hx hb hX hbl hbA hS (show vp_in 2 7 by unfold vp_in; decide) dL_law_857 ?_
  rw [e2]
  refine lv_aload_n hx hb dL_law_858 rfl (lv_at hl 0 rfl) ?_
  refine lv_iload hx hb dL_law_859 (lv_at hl 5 rfl) ?_
  refine lv_iconst (v := 3) hx hb dL_law_861 (by decide) ?_
  refine lv_iadd hx hb dL_law_862 ?_
  refine lv_topi (fun z3 ez3 => ?_)
  obtain rfl : z3 = 3 := ez3.trans (by decide)
  refine va_sld hx hb hX hbl hbA hS (show vp_in 3 7 by unfold vp_in; decide) dL_law_863 ?_
  rw [e3]
  refine lv_aload_n hx hb dL_law_864 rfl (lv_at hl 0 rfl) ?_
  refine lv_iload hx hb dL_law_865 (lv_at hl 5 rfl) ?_
  refine lv_iconst (v := 4) hx hb dL_law_867 (by decide) ?_
  refine lv_iadd hx hb dL_law_868 ?_
  refine lv_topi (fun z4 ez4 => ?_)
  obtain rfl : z4 = 4 := ez4.trans (by decide)
  refine va_sld hx hb hX hbl hbA hS (show vp_in 4 7 by unfold vp_in; decide) dL_law_869 ?_
  rw [e4]
  refine lv_aload_n hx hb dL_law_870 rfl (lv_at hl 0 rfl) ?_
  refine lv_iload hx hb dL_law_871 (lv_at hl 5 rfl) ?_
  refine lv_iconst (v := 5) hx hb dL_law_873 (by decide) ?_
  refine lv_iadd hx hb dL_law_874 ?_
  refine lv_topi (fun z5 ez5 => ?_)
  obtain rfl : z5 = 5 := ez5.trans (by decide)
  refine va_sld hx hb hX hbl hbA hS (show vp_in 5 7 by unfold vp_in; decide) dL_law_875 ?_
  rw [e5]
  refine lv_if_eq (tgt := 883) hx hb dL_law_876 (by decide) (fun c6 => ?_) (fun c6 => ?_)
  · refine lv_iconst (v := 0) hx hb dL_law_883 (by decide) ?_
    refine lv_aload_n hx hb dL_law_884 rfl (lv_at hl 0 rfl) ?_
    refine lv_iload hx hb dL_law_885 (lv_at hl 5 rfl) ?_
    refine lv_bipush (v := 6) hx hb dL_law_887 (by decide) ?_
    refine lv_iadd hx hb dL_law_889 ?_
    refine lv_topi (fun z7 ez7 => ?_)
    obtain rfl : z7 = 6 := ez7.trans (by decide)
    refine va_sld hx hb hX hbl hbA hS (show vp_in 6 7 by unfold vp_in; decide) dL_law_890 ?_
    rw [e6]
    refine lv_aload_n hx hb dL_law_891 rfl (lv_at hl 3 rfl) ?_
    have hPc := hP.sub (ws' := [(h0, .inr (17, zHS a))]) [0] rfl
    have hDc := hD.sub (ws' := [(h0, .inr (17, zHS a))]) [0] (by decide) rfl
    have hKc := hK.sub (tys' := []) [] rfl
    have hFc : ∀ q : Nat, H.size ≤ q → A q := fun q h => hA q (Nat.le_trans hS.1 h)
    refine vx_calli (vx_runSX (As := [.ref h0, .int x1, .int x2, .int x3, .int x4, .int 0, .int x6, .ref oL]) (rest := []) ⟨hx, hb, hml, hown, hts⟩ (cl_time l hst D H.size h0 a x1 x2 x3 x4 0 x6 oL) (vx_cwSW 8 hts (goodIn_app (goodIn_of _ (by decide +kernel)) (goodIn_sub (fun _ h => List.mem_cons_of_mem _ (List.mem_append_right _ (List.mem_append_left _ h))) zL_time_ws_good)) rfl rfl rfl (by decide +kernel) ⟨Nat.le_of_ble_eq_true rfl, Nat.le_of_ble_eq_true rfl⟩) ⟨zPre.blind, zPre.mk hPc hKc hDc hz hS (fun q h => hFc q h)⟩ rfl rfl hl.1 rfl (lv_room (Nat.le_of_ble_eq_true rfl)) dL_law_892 ⟨Nat.le_of_ble_eq_true rfl, Nat.le_of_ble_eq_true rfl⟩) hS (fun q _ h => hFc q h) (fun q h => hFc q h) (fun q _ h => hFc q h) (fun E9 ce q9 u t H1 locs ht9 hvm hpx hBX hz1 hk1 hS hcell hv9 hcl => ?_) (fun r9 u t H1 locs ht9 hvm hw hB hz1 hk1 hS => ?_)
    · exact False.elim hpx
    refine W.widen (k := 201) (n := 3006) (by omega) (by omega) ?_
    have hP := zKeep hP hk1
    generalize H1 = H at hP hS ⊢
    have hP : va_P D vwCl ([(h0, .inr (17, zHS a)), ((a 0), .inr (6, [.ref a1, .ref a2, .int 0])), (a1, .inl (cN, 30, .inl (fun _ => 0))), ((a 1), .inl (cE, 5, .inr (.inr (.inr (.inr (fun _ => none)))))), ((a 2), .inr (11, [.ref p1, .ref p2, .ref p3, .int 0, .long 0])), ((a 7), .inr (10, [.ref g, .int 0])), (g, .inl (cG, 8, .inr (.inr (.inr (.inr og))))), (mo, .inr (23, [.int 0, .ref b0, .ref b1, .ref b2, .ref b3, .int 0, .int 0, .long 0])), (b0, .inr (5, [.int 0, .ref dz, .int 0])), (b1, .inr (5, [.int 0, .ref dz, .int 0])), (b2, .inr (5, [.int 0, .ref dz, .int 0])), (b3, .inr (5, [.int 0, .ref dz, .int 0])), (oL, .inl (cL, 1, .inr (.inl (fun _ => 0)))), (oD, .inl (cD, 1, .inr (.inr (.inr (.inl (fun _ => 0))))))] ++ va_pl LR (zrow cI)) H := hP
    subst hw
    refine lv_istore (lv' := [(6, .int 1), (0, .ref b), (1, .ref h0), (2, .ref mo), (3, .ref oL), (4, .ref oD), (5, .int 0)]) hx hb dL_law_895 hl (by decide) rfl (fun ls hl => ?_)
    refine lv_aload_n hx hb dL_law_897 rfl (lv_at hl 3 rfl) ?_
    refine lv_aload_n hx hb dL_law_898 rfl (lv_at hl 1 rfl) ?_
    refine lv_iload hx hb dL_law_899 (lv_at hl 6 rfl) ?_
    refine lv_iconst (v := 1) hx hb dL_law_901 (by decide) ?_
    refine lv_iadd hx hb dL_law_902 ?_
    refine lv_topi (fun z8 ez8 => ?_)
    obtain rfl : z8 = 1 := ez8.trans (by decide)
    refine va_sld hx hb hX hbl hbA hS (show vp_in 1 7 by unfold vp_in; decide) dL_law_903 ?_
    rw [e1]
    refine lv_aload_n hx hb dL_law_904 rfl (lv_at hl 1 rfl) ?_
    refine lv_iload hx hb dL_law_905 (lv_at hl 6 rfl) ?_
    refine lv_iconst (v := 2) hx hb dL_law_907 (by decide) ?_
    refine lv_iadd hx hb dL_law_908 ?_
    refine lv_topi (fun z9 ez9 => ?_)
    obtain rfl : z9 = 2 := ez9.trans (by decide)
    refine va_sld hx hb hX hbl hbA hS (show vp_in 2 7 by unfold vp_in; decide) dL_law_909 ?_
    rw [e2]
    refine lv_aload_n hx hb dL_law_910 rfl (lv_at hl 1 rfl) ?_
    refine lv_iload hx hb dL_law_911 (lv_at hl 6 rfl) ?_
    refine lv_iconst (v := 3) hx hb dL_law_913 (by decide) ?_
    refine lv_iadd hx hb dL_law_914 ?_
    refine lv_topi (fun z10 ez10 => ?_)
    obtain rfl : z10 = 3 := ez10.trans (by decide)
    refine va_sld hx hb hX hbl hbA hS (show vp_in 3 7 by unfold vp_in; decide) dL_law_915 ?_
    rw [e3]
    refine lv_aload_n hx hb dL_law_916 rfl (lv_at hl 1 rfl) ?_
    refine lv_iload hx hb dL_law_917 (lv_at hl 6 rfl) ?_
    refine lv_iconst (v := 4) hx hb dL_law_919 (by decide) ?_
    refine lv_iadd hx hb dL_law_920 ?_
    refine lv_topi (fun z11 ez11 => ?_)
    obtain rfl : z11 = 4 := ez11.trans (by decide)
    refine va_sld hx hb hX hbl hbA hS (show vp_in 4 7 by unfold vp_in; decide) dL_law_921 ?_
    rw [e4]
    refine lv_aload_n hx hb dL_law_922 rfl (lv_at hl 1 rfl) ?_
    refine lv_iload hx hb dL_law_923 (lv_at hl 6 rfl) ?_
    refine lv_iconst (v := 5) hx hb dL_law_925 (by decide) ?_
    refine lv_iadd hx hb dL_law_926 ?_
    refine lv_topi (fun z12 ez12 => ?_)
    obtain rfl : z12 = 5 := ez12.trans (by decide)
    refine va_sld hx hb hX hbl hbA hS (show vp_in 5 7 by unfold vp_in; decide) dL_law_927 ?_
    rw [e5]
    refine lv_if_eq (tgt := 935) hx hb dL_law_928 (by decide) (fun _ => ?_) (fun c9 => absurd c6 c9)
    refine lv_iconst (v := 0) hx hb dL_law_935 (by decide) ?_
    refine lv_aload_n hx hb dL_law_936 rfl (lv_at hl 1 rfl) ?_
    refine lv_iload hx hb dL_law_937 (lv_at hl 6 rfl) ?_
    refine lv_bipush (v := 6) hx hb dL_law_939 (by decide) ?_
    refine lv_iadd hx hb dL_law_941 ?_
    refine lv_topi (fun z13 ez13 => ?_)
    obtain rfl : z13 = 6 := ez13.trans (by decide)
    refine va_sld hx hb hX hbl hbA hS (show vp_in 6 7 by unfold vp_in; decide) dL_law_942 ?_
    rw [e6]
    have hPc := hP.sub (ws' := [(mo, .inr (23, [.int 0, .ref b0, .ref b1, .ref b2, .ref b3, .int 0, .int 0, .long 0])), (b2, .inr (5, [.int 0, .ref dz, .int 0]))]) [7, 10] rfl
    have hDc := hD.sub (ws' := [(mo, .inr (23, [.int 0, .ref b0, .ref b1, .ref b2, .ref b3, .int 0, .int 0, .long 0])), (b2, .inr (5, [.int 0, .ref dz, .int 0]))]) [7, 10] (by decide) rfl
    have hKc := hK.sub (tys' := []) [] rfl
    have hFc := va_free (wc := [(mo, .inr (23, [.int 0, .ref b0, .ref b1, .ref b2, .ref b3, .int 0, .int 0, .long 0])), (b2, .inr (5, [.int 0, .ref dz, .int 0]))]) hD hS hA [7, 10] rfl
    refine va_calli (va_runV (As := [.int x1, .int x2, .int x3, .int x4, .int 0, .int x6]) (rest := []) ⟨hx, hb, hml, hown, hts⟩ (cm_time l hst D H.size mo b0 b1 b2 b3 dz 0 x1 x2 x3 x4 0 x6) (cwV 6 hts (goodIn_app (goodIn_of _ (by decide +kernel)) (goodIn_sub (fun _ h => List.mem_cons_of_mem _ (List.mem_append_right _ (List.mem_append_right _ (List.mem_append_left _ h)))) zX17_time_ws_good)) rfl rfl rfl (by decide +kernel) ⟨Nat.le_of_ble_eq_true rfl, Nat.le_of_ble_eq_true rfl⟩) ⟨zPre.blind, va_recv hKc hPc (ci := 23) (q0 := 0) rfl rfl, zPre.mk hPc hKc hDc hz hS (fun q h => hFc q h)⟩ rfl rfl hl.1 rfl (lv_room (Nat.le_of_ble_eq_true rfl)) dL_law_943 ⟨Nat.le_of_ble_eq_true rfl, Nat.le_of_ble_eq_true rfl⟩) hS (fun q _ h => hFc q h) (fun q h => hFc q h) (fun r9 u t H1 locs ht9 hvm hw hB hz1 hk1 hS => ?_)
    refine W.widen (k := 201) (n := 3006) (by omega) (by omega) ?_
    obtain ⟨hP1, hK1, hD1⟩ := hB
    rw [ht9] at hP1
    have hK1 := va_K.moved hvm.symm hK1
    obtain ⟨hP, hD⟩ := va_joinQ (wr := [(h0, .inr (17, zHS a)), ((a 0), .inr (6, [.ref a1, .ref a2, .int 0])), (a1, .inl (cN, 30, .inl (fun _ => 0))), ((a 1), .inl (cE, 5, .inr (.inr (.inr (.inr (fun _ => none)))))), ((a 2), .inr (11, [.ref p1, .ref p2, .ref p3, .int 0, .long 0])), ((a 7), .inr (10, [.ref g, .int 0])), (g, .inl (cG, 8, .inr (.inr (.inr (.inr og))))), (b0, .inr (5, [.int 0, .ref dz, .int 0])), (b1, .inr (5, [.int 0, .ref dz, .int 0])), (b3, .inr (5, [.int 0, .ref dz, .int 0])), (oL, .inl (cL, 1, .inr (.inl (fun _ => 0)))), (oD, .inl (cD, 1, .inr (.inr (.inr (.inl (fun _ => 0))))))]) (w1 := [(mo, .inr (23, [.int 1, .ref b0, .ref b1, .ref b2, .ref b3, .int 0, .int 0, .long 0])), (b2, .inr (5, [.int 0, .ref dz, .int 0]))]) hP hD [7, 10] [0, 1, 2, 3, 4, 5, 6, 8, 9, 11, 12, 13] rfl rfl (by decide) (by decide) hk1 hFc hP1 hD1
    have hK := (hK.sub (tys' := [(cN, .int), (cE, .object "HeatStadium$Event"), (cG, .array .int), (cI, .int), (cL, .long), (cD, .double)]) [0, 1, 2, 3, 4, 5] rfl).app hK1
    generalize H1 = H at hP hS ⊢
    have hP : va_P D vwCl ([(h0, .inr (17, zHS a)), ((a 0), .inr (6, [.ref a1, .ref a2, .int 0])), (a1, .inl (cN, 30, .inl (fun _ => 0))), ((a 1), .inl (cE, 5, .inr (.inr (.inr (.inr (fun _ => none)))))), ((a 2), .inr (11, [.ref p1, .ref p2, .ref p3, .int 0, .long 0])), ((a 7), .inr (10, [.ref g, .int 0])), (g, .inl (cG, 8, .inr (.inr (.inr (.inr og))))), (b0, .inr (5, [.int 0, .ref dz, .int 0])), (b1, .inr (5, [.int 0, .ref dz, .int 0])), (b3, .inr (5, [.int 0, .ref dz, .int 0])), (oL, .inl (cL, 1, .inr (.inl (fun _ => 0)))), (oD, .inl (cD, 1, .inr (.inr (.inr (.inl (fun _ => 0)))))), (mo, .inr (23, [.int 1, .ref b0, .ref b1, .ref b2, .ref b3, .int 0, .int 0, .long 0])), (b2, .inr (5, [.int 0, .ref dz, .int 0]))] ++ va_pl LR (zrow cI)) H := hP
    have hD : va_D A ([(h0, .inr (17, zHS a)), ((a 0), .inr (6, [.ref a1, .ref a2, .int 0])), (a1, .inl (cN, 30, .inl (fun _ => 0))), ((a 1), .inl (cE, 5, .inr (.inr (.inr (.inr (fun _ => none)))))), ((a 2), .inr (11, [.ref p1, .ref p2, .ref p3, .int 0, .long 0])), ((a 7), .inr (10, [.ref g, .int 0])), (g, .inl (cG, 8, .inr (.inr (.inr (.inr og))))), (b0, .inr (5, [.int 0, .ref dz, .int 0])), (b1, .inr (5, [.int 0, .ref dz, .int 0])), (b3, .inr (5, [.int 0, .ref dz, .int 0])), (oL, .inl (cL, 1, .inr (.inl (fun _ => 0)))), (oD, .inl (cD, 1, .inr (.inr (.inr (.inl (fun _ => 0)))))), (mo, .inr (23, [.int 1, .ref b0, .ref b1, .ref b2, .ref b3, .int 0, .int 0, .long 0])), (b2, .inr (5, [.int 0, .ref dz, .int 0]))] ++ va_pl LR (zrow cI)) := hD
    have hK : va_K D vwCl [(cN, .int), (cE, .object "HeatStadium$Event"), (cG, .array .int), (cI, .int), (cL, .long), (cD, .double)] s := hK
    subst hw
    refine lv_istore (lv' := [(7, .int 0), (6, .int 1), (0, .ref b), (1, .ref h0), (2, .ref mo), (3, .ref oL), (4, .ref oD), (5, .int 0)]) hx hb dL_law_946 hl (by decide) rfl (fun ls hl => ?_)
    refine lv_aload_n hx hb dL_law_948 rfl (lv_at hl 4 rfl) ?_
    have hPc := hP.sub (ws' := [(mo, .inr (23, [.int 1, .ref b0, .ref b1, .ref b2, .ref b3, .int 0, .int 0, .long 0]))]) [12] rfl
    have hDc := hD.sub (ws' := [(mo, .inr (23, [.int 1, .ref b0, .ref b1, .ref b2, .ref b3, .int 0, .int 0, .long 0]))]) [12] (by decide) rfl
    have hKc := hK.sub (tys' := []) [] rfl
    have hFc : ∀ q : Nat, H.size ≤ q → A q := fun q h => hA q (Nat.le_trans hS.1 h)
    refine va_calli (va_runV (As := []) (rest := []) ⟨hx, hb, hml, hown, hts⟩ (cm_thrown l hst D H.size mo b0 b1 b2 b3 dz 1) (cwV 0 hts (goodIn_app (goodIn_of _ (by decide +kernel)) (goodIn_sub (fun _ h => List.mem_cons_of_mem _ (List.mem_append_right _ (List.mem_append_right _ (List.mem_append_right _ (List.mem_append_left _ h))))) zX17_thrown_ws_good)) rfl rfl rfl (by decide +kernel) ⟨Nat.le_of_ble_eq_true rfl, Nat.le_of_ble_eq_true rfl⟩) ⟨zPre.blind, va_recv hKc hPc (ci := 23) (q0 := 0) rfl rfl, zPre.mk hPc hKc hDc hz hS (fun q h => hFc q h)⟩ rfl rfl hl.1 rfl (lv_room (Nat.le_of_ble_eq_true rfl)) dL_law_949 ⟨Nat.le_of_ble_eq_true rfl, Nat.le_of_ble_eq_true rfl⟩) hS (fun q _ h => hFc q h) (fun q h => hFc q h) (fun r9 u t H1 locs ht9 hvm hw hB hz1 hk1 hS => ?_)
    refine W.widen (k := 201) (n := 3006) (by omega) (by omega) ?_
    have hP := zKeep hP hk1
    generalize H1 = H at hP hS ⊢
    have hP : va_P D vwCl ([(h0, .inr (17, zHS a)), ((a 0), .inr (6, [.ref a1, .ref a2, .int 0])), (a1, .inl (cN, 30, .inl (fun _ => 0))), ((a 1), .inl (cE, 5, .inr (.inr (.inr (.inr (fun _ => none)))))), ((a 2), .inr (11, [.ref p1, .ref p2, .ref p3, .int 0, .long 0])), ((a 7), .inr (10, [.ref g, .int 0])), (g, .inl (cG, 8, .inr (.inr (.inr (.inr og))))), (b0, .inr (5, [.int 0, .ref dz, .int 0])), (b1, .inr (5, [.int 0, .ref dz, .int 0])), (b3, .inr (5, [.int 0, .ref dz, .int 0])), (oL, .inl (cL, 1, .inr (.inl (fun _ => 0)))), (oD, .inl (cD, 1, .inr (.inr (.inr (.inl (fun _ => 0)))))), (mo, .inr (23, [.int 1, .ref b0, .ref b1, .ref b2, .ref b3, .int 0, .int 0, .long 0])), (b2, .inr (5, [.int 0, .ref dz, .int 0]))] ++ va_pl LR (zrow cI)) H := hP
    subst hw
    refine lv_iload hx hb dL_law_952 (lv_at hl 1 rfl) ?_
    refine lv_icmp_eq (tgt := 959) hx hb dL_law_954 (by decide) (fun _ => ?_) (fun c => absurd (by decide) c)
    refine lv_iload hx hb dL_law_959 (lv_at hl 1 rfl) ?_
    refine lv_if_ne (tgt := 976) hx hb dL_law_961 (by decide) (fun _ => ?_) (fun c => absurd c (by decide))
    refine lv_goto (tgt := 2497) hx hb dL_law_976 (by decide) ?_
    refine W.widen (k := 600) (n := 8000) (by omega) (by omega) ?_
    exact kk H _ hS ls (lv_sub hl [2, 7] rfl)
  · refine lv_iconst (v := 1) hx hb dL_law_879 (by decide) ?_
    refine lv_goto (tgt := 884) hx hb dL_law_880 (by decide) ?_
    refine lv_aload_n hx hb dL_law_884 rfl (lv_at hl 0 rfl) ?_
    refine lv_iload hx hb dL_law_885 (lv_at hl 5 rfl) ?_
    refine lv_bipush (v := 6) hx hb dL_law_887 (by decide) ?_
    refine lv_iadd hx hb dL_law_889 ?_
    refine lv_topi (fun z14 ez14 => ?_)
    obtain rfl : z14 = 6 := ez14.trans (by decide)
    refine va_sld hx hb hX hbl hbA hS (show vp_in 6 7 by unfold vp_in; decide) dL_law_890 ?_
    rw [e6]
    refine lv_aload_n hx hb dL_law_891 rfl (lv_at hl 3 rfl) ?_
    have hPc := hP.sub (ws' := [(h0, .inr (17, zHS a))]) [0] rfl
    have hDc := hD.sub (ws' := [(h0, .inr (17, zHS a))]) [0] (by decide) rfl
    have hKc := hK.sub (tys' := []) [] rfl
    have hFc : ∀ q : Nat, H.size ≤ q → A q := fun q h => hA q (Nat.le_trans hS.1 h)
    refine vx_calli (vx_runSX (As := [.ref h0, .int x1, .int x2, .int x3, .int x4, .int 1, .int x6, .ref oL]) (rest := []) ⟨hx, hb, hml, hown, hts⟩ (cl_time l hst D H.size h0 a x1 x2 x3 x4 1 x6 oL) (vx_cwSW 8 hts (goodIn_app (goodIn_of _ (by decide +kernel)) (goodIn_sub (fun _ h => List.mem_cons_of_mem _ (List.mem_append_right _ (List.mem_append_left _ h))) zL_time_ws_good)) rfl rfl rfl (by decide +kernel) ⟨Nat.le_of_ble_eq_true rfl, Nat.le_of_ble_eq_true rfl⟩) ⟨zPre.blind, zPre.mk hPc hKc hDc hz hS (fun q h => hFc q h)⟩ rfl rfl hl.1 rfl (lv_room (Nat.le_of_ble_eq_true rfl)) dL_law_892 ⟨Nat.le_of_ble_eq_true rfl, Nat.le_of_ble_eq_true rfl⟩) hS (fun q _ h => hFc q h) (fun q h => hFc q h) (fun q _ h => hFc q h) (fun E9 ce q9 u t H1 locs ht9 hvm hpx hBX hz1 hk1 hS hcell hv9 hcl => ?_) (fun r9 u t H1 locs ht9 hvm hw hB hz1 hk1 hS => ?_)
    · exact False.elim hpx
    refine W.widen (k := 201) (n := 3006) (by omega) (by omega) ?_
    have hP := zKeep hP hk1
    generalize H1 = H at hP hS ⊢
    have hP : va_P D vwCl ([(h0, .inr (17, zHS a)), ((a 0), .inr (6, [.ref a1, .ref a2, .int 0])), (a1, .inl (cN, 30, .inl (fun _ => 0))), ((a 1), .inl (cE, 5, .inr (.inr (.inr (.inr (fun _ => none)))))), ((a 2), .inr (11, [.ref p1, .ref p2, .ref p3, .int 0, .long 0])), ((a 7), .inr (10, [.ref g, .int 0])), (g, .inl (cG, 8, .inr (.inr (.inr (.inr og))))), (mo, .inr (23, [.int 0, .ref b0, .ref b1, .ref b2, .ref b3, .int 0, .int 0, .long 0])), (b0, .inr (5, [.int 0, .ref dz, .int 0])), (b1, .inr (5, [.int 0, .ref dz, .int 0])), (b2, .inr (5, [.int 0, .ref dz, .int 0])), (b3, .inr (5, [.int 0, .ref dz, .int 0])), (oL, .inl (cL, 1, .inr (.inl (fun _ => 0)))), (oD, .inl (cD, 1, .inr (.inr (.inr (.inl (fun _ => 0))))))] ++ va_pl LR (zrow cI)) H := hP
    subst hw
    refine lv_istore (lv' := [(6, .int 1), (0, .ref b), (1, .ref h0), (2, .ref mo), (3, .ref oL), (4, .ref oD), (5, .int 0)]) hx hb dL_law_895 hl (by decide) rfl (fun ls hl => ?_)
    refine lv_aload_n hx hb dL_law_897 rfl (lv_at hl 3 rfl) ?_
    refine lv_aload_n hx hb dL_law_898 rfl (lv_at hl 1 rfl) ?_
    refine lv_iload hx hb dL_law_899 (lv_at hl 6 rfl) ?_
    refine lv_iconst (v := 1) hx hb dL_law_901 (by decide) ?_
    refine lv_iadd hx hb dL_law_902 ?_
    refine lv_topi (fun z15 ez15 => ?_)
    obtain rfl : z15 = 1 := ez15.trans (by decide)
    refine va_sld hx hb hX hbl hbA hS (show vp_in 1 7 by unfold vp_in; decide) dL_law_903 ?_
    rw [e1]
    refine lv_aload_n hx hb dL_law_904 rfl (lv_at hl 1 rfl) ?_
    refine lv_iload hx hb dL_law_905 (lv_at hl 6 rfl) ?_
    refine lv_iconst (v := 2) hx hb dL_law_907 (by decide) ?_
    refine lv_iadd hx hb dL_law_908 ?_
    refine lv_topi (fun z16 ez16 => ?_)
    obtain rfl : z16 = 2 := ez16.trans (by decide)
    refine va_sld hx hb hX hbl hbA hS (show vp_in 2 7 by unfold vp_in; decide) dL_law_909 ?_
    rw [e2]
    refine lv_aload_n hx hb dL_law_910 rfl (lv_at hl 1 rfl) ?_
    refine lv_iload hx hb dL_law_911 (lv_at hl 6 rfl) ?_
    refine lv_iconst (v := 3) hx hb dL_law_913 (by decide) ?_
    refine lv_iadd hx hb dL_law_914 ?_
    refine lv_topi (fun z17 ez17 => ?_)
    obtain rfl : z17 = 3 := ez17.trans (by decide)
    refine va_sld hx hb hX hbl hbA hS (show vp_in 3 7 by unfold vp_in; decide) dL_law_915 ?_
    rw [e3]
    refine lv_aload_n hx hb dL_law_916 rfl (lv_at hl 1 rfl) ?_
    refine lv_iload hx hb dL_law_917 (lv_at hl 6 rfl) ?_
    refine lv_iconst (v := 4) hx hb dL_law_919 (by decide) ?_
    refine lv_iadd hx hb dL_law_920 ?_
    refine lv_topi (fun z18 ez18 => ?_)
    obtain rfl : z18 = 4 := ez18.trans (by decide)
    refine va_sld hx hb hX hbl hbA hS (show vp_in 4 7 by unfold vp_in; decide) dL_law_921 ?_
    rw [e4]
    refine lv_aload_n hx hb dL_law_922 rfl (lv_at hl 1 rfl) ?_
    refine lv_iload hx hb dL_law_923 (lv_at hl 6 rfl) ?_
    refine lv_iconst (v := 5) hx hb dL_law_925 (by decide) ?_
    refine lv_iadd hx hb dL_law_926 ?_
    refine lv_topi (fun z19 ez19 => ?_)
    obtain rfl : z19 = 5 := ez19.trans (by decide)
    refine va_sld hx hb hX hbl hbA hS (show vp_in 5 7 by unfold vp_in; decide) dL_law_927 ?_
    rw [e5]
    refine lv_if_eq (tgt := 935) hx hb dL_law_928 (by decide) (fun c9 => absurd c9 c6) (fun _ => ?_)
    refine lv_iconst (v := 1) hx hb dL_law_931 (by decide) ?_
    refine lv_goto (tgt := 936) hx hb dL_law_932 (by decide) ?_
    refine lv_aload_n hx hb dL_law_936 rfl (lv_at hl 1 rfl) ?_
    refine lv_iload hx hb dL_law_937 (lv_at hl 6 rfl) ?_
    refine lv_bipush (v := 6) hx hb dL_law_939 (by decide) ?_
    refine lv_iadd hx hb dL_law_941 ?_
    refine lv_topi (fun z20 ez20 => ?_)
    obtain rfl : z20 = 6 := ez20.trans (by decide)
    refine va_sld hx hb hX hbl hbA hS (show vp_in 6 7 by unfold vp_in; decide) dL_law_942 ?_
    rw [e6]
    have hPc := hP.sub (ws' := [(mo, .inr (23, [.int 0, .ref b0, .ref b1, .ref b2, .ref b3, .int 0, .int 0, .long 0])), (b2, .inr (5, [.int 0, .ref dz, .int 0]))]) [7, 10] rfl
    have hDc := hD.sub (ws' := [(mo, .inr (23, [.int 0, .ref b0, .ref b1, .ref b2, .ref b3, .int 0, .int 0, .long 0])), (b2, .inr (5, [.int 0, .ref dz, .int 0]))]) [7, 10] (by decide) rfl
    have hKc := hK.sub (tys' := []) [] rfl
    have hFc := va_free (wc := [(mo, .inr (23, [.int 0, .ref b0, .ref b1, .ref b2, .ref b3, .int 0, .int 0, .long 0])), (b2, .inr (5, [.int 0, .ref dz, .int 0]))]) hD hS hA [7, 10] rfl
    refine va_calli (va_runV (As := [.int x1, .int x2, .int x3, .int x4, .int 1, .int x6]) (rest := []) ⟨hx, hb, hml, hown, hts⟩ (cm_time l hst D H.size mo b0 b1 b2 b3 dz 0 x1 x2 x3 x4 1 x6) (cwV 6 hts (goodIn_app (goodIn_of _ (by decide +kernel)) (goodIn_sub (fun _ h => List.mem_cons_of_mem _ (List.mem_append_right _ (List.mem_append_right _ (List.mem_append_left _ h)))) zX17_time_ws_good)) rfl rfl rfl (by decide +kernel) ⟨Nat.le_of_ble_eq_true rfl, Nat.le_of_ble_eq_true rfl⟩) ⟨zPre.blind, va_recv hKc hPc (ci := 23) (q0 := 0) rfl rfl, zPre.mk hPc hKc hDc hz hS (fun q h => hFc q h)⟩ rfl rfl hl.1 rfl (lv_room (Nat.le_of_ble_eq_true rfl)) dL_law_943 ⟨Nat.le_of_ble_eq_true rfl, Nat.le_of_ble_eq_true rfl⟩) hS (fun q _ h => hFc q h) (fun q h => hFc q h) (fun r9 u t H1 locs ht9 hvm hw hB hz1 hk1 hS => ?_)
    refine W.widen (k := 201) (n := 3006) (by omega) (by omega) ?_
    obtain ⟨hP1, hK1, hD1⟩ := hB
    rw [ht9] at hP1
    have hK1 := va_K.moved hvm.symm hK1
    obtain ⟨hP, hD⟩ := va_joinQ (wr := [(h0, .inr (17, zHS a)), ((a 0), .inr (6, [.ref a1, .ref a2, .int 0])), (a1, .inl (cN, 30, .inl (fun _ => 0))), ((a 1), .inl (cE, 5, .inr (.inr (.inr (.inr (fun _ => none)))))), ((a 2), .inr (11, [.ref p1, .ref p2, .ref p3, .int 0, .long 0])), ((a 7), .inr (10, [.ref g, .int 0])), (g, .inl (cG, 8, .inr (.inr (.inr (.inr og))))), (b0, .inr (5, [.int 0, .ref dz, .int 0])), (b1, .inr (5, [.int 0, .ref dz, .int 0])), (b3, .inr (5, [.int 0, .ref dz, .int 0])), (oL, .inl (cL, 1, .inr (.inl (fun _ => 0)))), (oD, .inl (cD, 1, .inr (.inr (.inr (.inl (fun _ => 0))))))]) (w1 := [(mo, .inr (23, [.int 1, .ref b0, .ref b1, .ref b2, .ref b3, .int 0, .int 0, .long 0])), (b2, .inr (5, [.int 0, .ref dz, .int 0]))]) hP hD [7, 10] [0, 1, 2, 3, 4, 5, 6, 8, 9, 11, 12, 13] rfl rfl (by decide) (by decide) hk1 hFc hP1 hD1
    have hK := (hK.sub (tys' := [(cN, .int), (cE, .object "HeatStadium$Event"), (cG, .array .int), (cI, .int), (cL, .long), (cD, .double)]) [0, 1, 2, 3, 4, 5] rfl).app hK1
    generalize H1 = H at hP hS ⊢
    have hP : va_P D vwCl ([(h0, .inr (17, zHS a)), ((a 0), .inr (6, [.ref a1, .ref a2, .int 0])), (a1, .inl (cN, 30, .inl (fun _ => 0))), ((a 1), .inl (cE, 5, .inr (.inr (.inr (.inr (fun _ => none)))))), ((a 2), .inr (11, [.ref p1, .ref p2, .ref p3, .int 0, .long 0])), ((a 7), .inr (10, [.ref g, .int 0])), (g, .inl (cG, 8, .inr (.inr (.inr (.inr og))))), (b0, .inr (5, [.int 0, .ref dz, .int 0])), (b1, .inr (5, [.int 0, .ref dz, .int 0])), (b3, .inr (5, [.int 0, .ref dz, .int 0])), (oL, .inl (cL, 1, .inr (.inl (fun _ => 0)))), (oD, .inl (cD, 1, .inr (.inr (.inr (.inl (fun _ => 0)))))), (mo, .inr (23, [.int 1, .ref b0, .ref b1, .ref b2, .ref b3, .int 0, .int 0, .long 0])), (b2, .inr (5, [.int 0, .ref dz, .int 0]))] ++ va_pl LR (zrow cI)) H := hP
    have hD : va_D A ([(h0, .inr (17, zHS a)), ((a 0), .inr (6, [.ref a1, .ref a2, .int 0])), (a1, .inl (cN, 30, .inl (fun _ => 0))), ((a 1), .inl (cE, 5, .inr (.inr (.inr (.inr (fun _ => none)))))), ((a 2), .inr (11, [.ref p1, .ref p2, .ref p3, .int 0, .long 0])), ((a 7), .inr (10, [.ref g, .int 0])), (g, .inl (cG, 8, .inr (.inr (.inr (.inr og))))), (b0, .inr (5, [.int 0, .ref dz, .int 0])), (b1, .inr (5, [.int 0, .ref dz, .int 0])), (b3, .inr (5, [.int 0, .ref dz, .int 0])), (oL, .inl (cL, 1, .inr (.inl (fun _ => 0)))), (oD, .inl (cD, 1, .inr (.inr (.inr (.inl (fun _ => 0)))))), (mo, .inr (23, [.int 1, .ref b0, .ref b1, .ref b2, .ref b3, .int 0, .int 0, .long 0])), (b2, .inr (5, [.int 0, .ref dz, .int 0]))] ++ va_pl LR (zrow cI)) := hD
    have hK : va_K D vwCl [(cN, .int), (cE, .object "HeatStadium$Event"), (cG, .array .int), (cI, .int), (cL, .long), (cD, .double)] s := hK
    subst hw
    refine lv_istore (lv' := [(7, .int 0), (6, .int 1), (0, .ref b), (1, .ref h0), (2, .ref mo), (3, .ref oL), (4, .ref oD), (5, .int 0)]) hx hb dL_law_946 hl (by decide) rfl (fun ls hl => ?_)
    refine lv_aload_n hx hb dL_law_948 rfl (lv_at hl 4 rfl) ?_
    have hPc := hP.sub (ws' := [(mo, .inr (23, [.int 1, .ref b0, .ref b1, .ref b2, .ref b3, .int 0, .int 0, .long 0]))]) [12] rfl
    have hDc := hD.sub (ws' := [(mo, .inr (23, [.int 1, .ref b0, .ref b1, .ref b2, .ref b3, .int 0, .int 0, .long 0]))]) [12] (by decide) rfl
    have hKc := hK.sub (tys' := []) [] rfl
    have hFc : ∀ q : Nat, H.size ≤ q → A q := fun q h => hA q (Nat.le_trans hS.1 h)
    refine va_calli (va_runV (As := []) (rest := []) ⟨hx, hb, hml, hown, hts⟩ (cm_thrown l hst D H.size mo b0 b1 b2 b3 dz 1) (cwV 0 hts (goodIn_app (goodIn_of _ (by decide +kernel)) (goodIn_sub (fun _ h => List.mem_cons_of_mem _ (List.mem_append_right _ (List.mem_append_right _ (List.mem_append_right _ (List.mem_append_left _ h))))) zX17_thrown_ws_good)) rfl rfl rfl (by decide +kernel) ⟨Nat.le_of_ble_eq_true rfl, Nat.le_of_ble_eq_true rfl⟩) ⟨zPre.blind, va_recv hKc hPc (ci := 23) (q0 := 0) rfl rfl, zPre.mk hPc hKc hDc hz hS (fun q h => hFc q h)⟩ rfl rfl hl.1 rfl (lv_room (Nat.le_of_ble_eq_true rfl)) dL_law_949 ⟨Nat.le_of_ble_eq_true rfl, Nat.le_of_ble_eq_true rfl⟩) hS (fun q _ h => hFc q h) (fun q h => hFc q h) (fun r9 u t H1 locs ht9 hvm hw hB hz1 hk1 hS => ?_)
    refine W.widen (k := 201) (n := 3006) (by omega) (by omega) ?_
    have hP := zKeep hP hk1
    generalize H1 = H at hP hS ⊢
    have hP : va_P D vwCl ([(h0, .inr (17, zHS a)), ((a 0), .inr (6, [.ref a1, .ref a2, .int 0])), (a1, .inl (cN, 30, .inl (fun _ => 0))), ((a 1), .inl (cE, 5, .inr (.inr (.inr (.inr (fun _ => none)))))), ((a 2), .inr (11, [.ref p1, .ref p2, .ref p3, .int 0, .long 0])), ((a 7), .inr (10, [.ref g, .int 0])), (g, .inl (cG, 8, .inr (.inr (.inr (.inr og))))), (b0, .inr (5, [.int 0, .ref dz, .int 0])), (b1, .inr (5, [.int 0, .ref dz, .int 0])), (b3, .inr (5, [.int 0, .ref dz, .int 0])), (oL, .inl (cL, 1, .inr (.inl (fun _ => 0)))), (oD, .inl (cD, 1, .inr (.inr (.inr (.inl (fun _ => 0)))))), (mo, .inr (23, [.int 1, .ref b0, .ref b1, .ref b2, .ref b3, .int 0, .int 0, .long 0])), (b2, .inr (5, [.int 0, .ref dz, .int 0]))] ++ va_pl LR (zrow cI)) H := hP
    subst hw
    refine lv_iload hx hb dL_law_952 (lv_at hl 1 rfl) ?_
    refine lv_icmp_eq (tgt := 959) hx hb dL_law_954 (by decide) (fun _ => ?_) (fun c => absurd (by decide) c)
    refine lv_iload hx hb dL_law_959 (lv_at hl 1 rfl) ?_
    refine lv_if_ne (tgt := 976) hx hb dL_law_961 (by decide) (fun _ => ?_) (fun c => absurd c (by decide))
    refine lv_goto (tgt := 2497) hx hb dL_law_976 (by decide) ?_
    refine W.widen (k := 600) (n := 8000) (by omega) (by omega) ?_
    exact kk H _ hS ls (lv_sub hl [2, 7] rfl)

def w_lc_react : List Cond := .methodLink RL 170 yL_react :: ([.methodLink RL 170 yL_react, .static yL_react, .initialized RL, .methodLink RL 173 yX17_react, .instanceMethod yX17_react, .selects RX17 yX17_react yX17_react, .initialized RX17, .methodLink RL 134 yX17_thrown, .instanceMethod yX17_thrown, .selects RX17 yX17_thrown yX17_thrown] ++ (zL_react_ws ++ (zX17_react_ws ++ (zX17_thrown_ws ++ ([])))))
set_option maxHeartbeats 4000000 in
set_option maxRecDepth 100000 in
theorem w_lc_react_in : ∀ w ∈ w_lc_react, w ∈ lw_tbl := by decide +kernel
set_option maxHeartbeats 4000000 in
set_option maxRecDepth 100000 in
/-- the law's call of react -/
theorem lc_react {p : Program} {e : Env} {s : State} {m : MethodId} {below : List Frame} {meth : Method} {c : Code} {A : Nat → Prop} {Q : State → Prop} {b : Nat} {xs : Nat → Int32} (l : Launch) (hst : l.stackTraces = false) (D : va_G) (h0 : Nat) (a : Nat → Nat) (a1 a2 cN cE p1 p2 p3 g : Nat) (og : Nat → Option Nat) (LR : List Nat) (cG cI : Nat) (mo b0 b1 b2 b3 dz sa va oL oD cL cD : Nat) (x1 x2 x3 x4 x5 x6 : Int32) (hx : p.tables.exec = Jvm.exec) (hb : c.code = cL_law) (hml : c.maxLocals = 9) (hts : ∀ w ∈ w_lc_react, w.before #[Value.ref b] s = true) (hown : s.vm.findClass RL = some m.cls) (hX : va_X b 7 xs s s.heap) (hbl : b < s.heap.size) (hA : ∀ q : Nat, s.heap.size ≤ q → A q) (hbA : ¬ A b) (hz : zX A s s.heap) (hm : zMS dz sa va A s s.heap) (hg : ∀ i, i < 8 → ∃ y, og i = some y ∧ y ∈ LR) (e1 : xs (1 : Int32).toNatClampNeg = x1) (e2 : xs (2 : Int32).toNatClampNeg = x2) (e3 : xs (3 : Int32).toNatClampNeg = x3) (e4 : xs (4 : Int32).toNatClampNeg = x4) (e5 : xs (5 : Int32).toNatClampNeg = x5) (e6 : xs (6 : Int32).toNatClampNeg = x6) (kk : ∀ (H : Heap) (locs : List Loc), va_S A s.heap H locs → ∀ ls : Array Slot, lv_has ls 9 [(0, .ref b), (5, .int 0)] → W p l e room_1 s m #[Value.ref b] below meth c H locs 600 8000 Q (F0 m 2497 ls [])) (H : Heap) (locs : List Loc) (ls : Array Slot) (hP : va_P D vwCl ([(h0, .inr (17, zHS a)), ((a 0), .inr (6, [.ref a1, .ref a2, .int 0])), (a1, .inl (cN, 30, .inl (fun _ => 0))), ((a 1), .inl (cE, 5, .inr (.inr (.inr (.inr (fun _ => none)))))), ((a 2), .inr (11, [.ref p1, .ref p2, .ref p3, .int 0, .long 0])), ((a 7), .inr (10, [.ref g, .int 0])), (g, .inl (cG, 8, .inr (.inr (.inr (.inr og))))), (mo, .inr (23, [.int 0, .ref b0, .ref b1, .ref b2, .ref b3, .int 0, .int 0, .long 0])), (b0, .inr (5, [.int 0, .ref dz, .int 0])), (b1, .inr (5, [.int 0, .ref dz, .int 0])), (b2, .inr (5, [.int 0, .ref dz, .int 0])), (b3, .inr (5, [.int 0, .ref dz, .int 0])), (oL, .inl (cL, 1, .inr (.inl (fun _ => 0)))), (oD, .inl (cD, 1, .inr (.inr (.inr (.inl (fun _ => 0))))))] ++ va_pl LR (zrow cI)) H) (hD : va_D A ([(h0, .inr (17, zHS a)), ((a 0), .inr (6, [.ref a1, .ref a2, .int 0])), (a1, .inl (cN, 30, .inl (fun _ => 0))), ((a 1), .inl (cE, 5, .inr (.inr (.inr (.inr (fun _ => none)))))), ((a 2), .inr (11, [.ref p1, .ref p2, .ref p3, .int 0, .long 0])), ((a 7), .inr (10, [.ref g, .int 0])), (g, .inl (cG, 8, .inr (.inr (.inr (.inr og))))), (mo, .inr (23, [.int 0, .ref b0, .ref b1, .ref b2, .ref b3, .int 0, .int 0, .long 0])), (b0, .inr (5, [.int 0, .ref dz, .int 0])), (b1, .inr (5, [.int 0, .ref dz, .int 0])), (b2, .inr (5, [.int 0, .ref dz, .int 0])), (b3, .inr (5, [.int 0, .ref dz, .int 0])), (oL, .inl (cL, 1, .inr (.inl (fun _ => 0)))), (oD, .inl (cD, 1, .inr (.inr (.inr (.inl (fun _ => 0))))))] ++ va_pl LR (zrow cI))) (hK : va_K D vwCl [(cN, .int), (cE, .object "HeatStadium$Event"), (cG, .array .int), (cI, .int), (cL, .long), (cD, .double)] s) (hS : va_S A s.heap H locs) (hl : lv_has ls 9 [(0, .ref b), (1, .ref h0), (2, .ref mo), (3, .ref oL), (4, .ref oD), (5, .int 0)]) : W p l e room_1 s m #[Value.ref b] below meth c H locs 200 3000 Q (F0 m 979 ls []) := by
  refine lv_aload_n hx hb dL_law_979 rfl (lv_at hl 1 rfl) ?_
  refine lv_aload_n hx hb dL_law_980 rfl (lv_at hl 0 rfl) ?_
  refine lv_iload hx hb dL_law_981 (lv_at hl 5 rfl) ?_
  refine lv_iconst (v := 1) hx hb dL_law_983 (by decide) ?_
  refine lv_iadd hx hb dL_law_984 ?_
  refine lv_topi (fun z1 ez1 => ?_)
  obtain rfl : z1 = 1 := ez1.trans (by decide)
  refine va_sld hx hb hX hbl hbA hS (show vp_in 1 7 by unfold vp_in; decide) dL_law_985 ?_
  rw [e1]
  refine lv_aload_n hx hb dL_law_986 rfl (lv_at hl 0 rfl) ?_
  refine lv_iload hx hb dL_law_987 (lv_at hl 5 rfl) ?_
  refine lv_iconst (v := 2) hx hb dL_law_989 (by decide) ?_
  refine lv_iadd hx hb dL_law_990 ?_
  refine lv_topi (fun z2 ez2 => ?_)
  obtain rfl : z2 = 2 := ez2.trans (by decide)
  refine va_sld hx hb hX hbl hbA hS (show vp_in 2 7 by unfold vp_in; decide) dL_law_991 ?_
  rw [e2]
  refine lv_aload_n hx hb dL_law_992 rfl (lv_at hl 0 rfl) ?_
  refine lv_iload hx hb dL_law_993 (lv_at hl 5 rfl) ?_
  refine lv_iconst (v := 3) hx hb dL_law_995 (by decide) ?_
  refine lv_iadd hx hb dL_law_996 ?_
  refine lv_topi (fun z3 ez3 => ?_)
  obtain rfl : z3 = 3 := ez3.trans (by decide)
  refine va_sld hx hb hX hbl hbA hS (show vp_in 3 7 by unfold vp_in; decide) dL_law_997 ?_
  rw [e3]
  refine lv_aload_n hx hb dL_law_998 rfl (lv_at hl 0 rfl) ?_
  refine lv_iload hx hb dL_law_999 (lv_at hl 5 rfl) ?_
  refine lv_iconst (v := 4) hx hb dL_law_1001 (by decide) ?_
  refine lv_iadd hx hb dL_law_1002 ?_
  refine lv_topi (fun z4 ez4 => ?_)
  obtain rfl : z4 = 4 := ez4.trans (by decide)
  refine va_sld hx hb hX hbl hbA hS (show vp_in 4 7 by unfold vp_in; decide) dL_law_1003 ?_
  rw [e4]
  refine lv_aload_n hx hb dL_law_1004 rfl (lv_at hl 3 rfl) ?_
  have hPc := hP.sub (ws' := [(h0, .inr (17, zHS a))]) [0] rfl
  have hDc := hD.sub (ws' := [(h0, .inr (17, zHS a))]) [0] (by decide) rfl
  have hKc := hK.sub (tys' := []) [] rfl
  have hFc : ∀ q : Nat, H.size ≤ q → A q := fun q h => hA q (Nat.le_trans hS.1 h)
  refine vx_calli (vx_runSX (As := [.ref h0, .int x1, .int x2, .int x3, .int x4, .ref oL]) (rest := []) ⟨hx, hb, hml, hown, hts⟩ (cl_react l hst D H.size h0 a x1 x2 x3 x4 oL) (vx_cwSW 6 hts (goodIn_app (goodIn_of _ (by decide +kernel)) (goodIn_sub (fun _ h => List.mem_cons_of_mem _ (List.mem_append_right _ (List.mem_append_left _ h))) zL_react_ws_good)) rfl rfl rfl (by decide +kernel) ⟨Nat.le_of_ble_eq_true rfl, Nat.le_of_ble_eq_true rfl⟩) ⟨zPre.blind, zPre.mk hPc hKc hDc hz hS (fun q h => hFc q h)⟩ rfl rfl hl.1 rfl (lv_room (Nat.le_of_ble_eq_true rfl)) dL_law_1005 ⟨Nat.le_of_ble_eq_true rfl, Nat.le_of_ble_eq_true rfl⟩) hS (fun q _ h => hFc q h) (fun q h => hFc q h) (fun q _ h => hFc q h) (fun E9 ce q9 u t H1 locs ht9 hvm hpx hBX hz1 hk1 hS hcell hv9 hcl => ?_) (fun r9 u t H1 locs ht9 hvm hw hB hz1 hk1 hS => ?_)
  · exact False.elim hpx
  refine W.widen (k := 201) (n := 3006) (by omega) (by omega) ?_
  have hP := zKeep hP hk1
  generalize H1 = H at hP hS ⊢
  have hP : va_P D vwCl ([(h0, .inr (17, zHS a)), ((a 0), .inr (6, [.ref a1, .ref a2, .int 0])), (a1, .inl (cN, 30, .inl (fun _ => 0))), ((a 1), .inl (cE, 5, .inr (.inr (.inr (.inr (fun _ => none)))))), ((a 2), .inr (11, [.ref p1, .ref p2, .ref p3, .int 0, .long 0])), ((a 7), .inr (10, [.ref g, .int 0])), (g, .inl (cG, 8, .inr (.inr (.inr (.inr og))))), (mo, .inr (23, [.int 0, .ref b0, .ref b1, .ref b2, .ref b3, .int 0, .int 0, .long 0])), (b0, .inr (5, [.int 0, .ref dz, .int 0])), (b1, .inr (5, [.int 0, .ref dz, .int 0])), (b2, .inr (5, [.int 0, .ref dz, .int 0])), (b3, .inr (5, [.int 0, .ref dz, .int 0])), (oL, .inl (cL, 1, .inr (.inl (fun _ => 0)))), (oD, .inl (cD, 1, .inr (.inr (.inr (.inl (fun _ => 0))))))] ++ va_pl LR (zrow cI)) H := hP
  subst hw
  refine lv_istore (lv' := [(6, .int 1), (0, .ref b), (1, .ref h0), (2, .ref mo), (3, .ref oL), (4, .ref oD), (5, .int 0)]) hx hb dL_law_1008 hl (by decide) rfl (fun ls hl => ?_)
  refine lv_aload_n hx hb dL_law_1010 rfl (lv_at hl 3 rfl) ?_
  refine lv_aload_n hx hb dL_law_1011 rfl (lv_at hl 1 rfl) ?_
  refine lv_iload hx hb dL_law_1012 (lv_at hl 6 rfl) ?_
  refine lv_iconst (v := 1) hx hb dL_law_1014 (by decide) ?_
  refine lv_iadd hx hb dL_law_1015 ?_
  refine lv_topi (fun z5 ez5 => ?_)
  obtain rfl : z5 = 1 := ez5.trans (by decide)
  refine va_sld hx hb hX hbl hbA hS (show vp_in 1 7 by unfold vp_in; decide) dL_law_1016 ?_
  rw [e1]
  refine lv_aload_n hx hb dL_law_1017 rfl (lv_at hl 1 rfl) ?_
  refine lv_iload hx hb dL_law_1018 (lv_at hl 6 rfl) ?_
  refine lv_iconst (v := 2) hx hb dL_law_1020 (by decide) ?_
  refine lv_iadd hx hb dL_law_1021 ?_
  refine lv_topi (fun z6 ez6 => ?_)
  obtain rfl : z6 = 2 := ez6.trans (by decide)
  refine va_sld hx hb hX hbl hbA hS (show vp_in 2 7 by unfold vp_in; decide) dL_law_1022 ?_
  rw [e2]
  refine lv_aload_n hx hb dL_law_1023 rfl (lv_at hl 1 rfl) ?_
  refine lv_iload hx hb dL_law_1024 (lv_at hl 6 rfl) ?_
  refine lv_iconst (v := 3) hx hb dL_law_1026 (by decide) ?_
  refine lv_iadd hx hb dL_law_1027 ?_
  refine lv_topi (fun z7 ez7 => ?_)
  obtain rfl : z7 = 3 := ez7.trans (by decide)
  refine va_sld hx hb hX hbl hbA hS (show vp_in 3 7 by unfold vp_in; decide) dL_law_1028 ?_
  rw [e3]
  refine lv_aload_n hx hb dL_law_1029 rfl (lv_at hl 1 rfl) ?_
  refine lv_iload hx hb dL_law_1030 (lv_at hl 6 rfl) ?_
  refine lv_iconst (v := 4) hx hb dL_law_1032 (by decide) ?_
  refine lv_iadd hx hb dL_law_1033 ?_
  refine lv_topi (fun z8 ez8 => ?_)
  obtain rfl : z8 = 4 := ez8.trans (by decide)
  refine va_sld hx hb hX hbl hbA hS (show vp_in 4 7 by unfold vp_in; decide) dL_law_1034 ?_
  rw [e4]
  have hPc := hP.sub (ws' := [(mo, .inr (23, [.int 0, .ref b0, .ref b1, .ref b2, .ref b3, .int 0, .int 0, .long 0])), (b2, .inr (5, [.int 0, .ref dz, .int 0]))]) [7, 10] rfl
  have hDc := hD.sub (ws' := [(mo, .inr (23, [.int 0, .ref b0, .ref b1, .ref b2, .ref b3, .int 0, .int 0, .long 0])), (b2, .inr (5, [.int 0, .ref dz, .int 0]))]) [7, 10] (by decide) rfl
  have hKc := hK.sub (tys' := []) [] rfl
  have hFc := va_free (wc := [(mo, .inr (23, [.int 0, .ref b0, .ref b1, .ref b2, .ref b3, .int 0, .int 0, .long 0])), (b2, .inr (5, [.int 0, .ref dz, .int 0]))]) hD hS hA [7, 10] rfl
  refine va_calli (va_runV (As := [.int x1, .int x2, .int x3, .int x4]) (rest := []) ⟨hx, hb, hml, hown, hts⟩ (cm_react l hst D H.size mo b0 b1 b2 b3 dz 0 x1 x2 x3 x4) (cwV 4 hts (goodIn_app (goodIn_of _ (by decide +kernel)) (goodIn_sub (fun _ h => List.mem_cons_of_mem _ (List.mem_append_right _ (List.mem_append_right _ (List.mem_append_left _ h)))) zX17_react_ws_good)) rfl rfl rfl (by decide +kernel) ⟨Nat.le_of_ble_eq_true rfl, Nat.le_of_ble_eq_true rfl⟩) ⟨zPre.blind, va_recv hKc hPc (ci := 23) (q0 := 0) rfl rfl, zPre.mk hPc hKc hDc hz hS (fun q h => hFc q h)⟩ rfl rfl hl.1 rfl (lv_room (Nat.le_of_ble_eq_true rfl)) dL_law_1035 ⟨Nat.le_of_ble_eq_true rfl, Nat.le_of_ble_eq_true rfl⟩) hS (fun q _ h => hFc q h) (fun q h => hFc q h) (fun r9 u t H1 locs ht9 hvm hw hB hz1 hk1 hS => ?_)
  refine W.widen (k := 201) (n := 3006) (by omega) (by omega) ?_
  obtain ⟨hP1, hK1, hD1⟩ := hB
  rw [ht9] at hP1
  have hK1 := va_K.moved hvm.symm hK1
  obtain ⟨hP, hD⟩ := va_joinQ (wr := [(h0, .inr (17, zHS a)), ((a 0), .inr (6, [.ref a1, .ref a2, .int 0])), (a1, .inl (cN, 30, .inl (fun _ => 0))), ((a 1), .inl (cE, 5, .inr (.inr (.inr (.inr (fun _ => none)))))), ((a 2), .inr (11, [.ref p1, .ref p2, .ref p3, .int 0, .long 0])), ((a 7), .inr (10, [.ref g, .int 0])), (g, .inl (cG, 8, .inr (.inr (.inr (.inr og))))), (b0, .inr (5, [.int 0, .ref dz, .int 0])), (b1, .inr (5, [.int 0, .ref dz, .int 0])), (b3, .inr (5, [.int 0, .ref dz, .int 0])), (oL, .inl (cL, 1, .inr (.inl (fun _ => 0)))), (oD, .inl (cD, 1, .inr (.inr (.inr (.inl (fun _ => 0))))))]) (w1 := [(mo, .inr (23, [.int 1, .ref b0, .ref b1, .ref b2, .ref b3, .int 0, .int 0, .long 0])), (b2, .inr (5, [.int 0, .ref dz, .int 0]))]) hP hD [7, 10] [0, 1, 2, 3, 4, 5, 6, 8, 9, 11, 12, 13] rfl rfl (by decide) (by decide) hk1 hFc hP1 hD1
  have hK := (hK.sub (tys' := [(cN, .int), (cE, .object "HeatStadium$Event"), (cG, .array .int), (cI, .int), (cL, .long), (cD, .double)]) [0, 1, 2, 3, 4, 5] rfl).app hK1
  generalize H1 = H at hP hS ⊢
  have hP : va_P D vwCl ([(h0, .inr (17, zHS a)), ((a 0), .inr (6, [.ref a1, .ref a2, .int 0])), (a1, .inl (cN, 30, .inl (fun _ => 0))), ((a 1), .inl (cE, 5, .inr (.inr (.inr (.inr (fun _ => none)))))), ((a 2), .inr (11, [.ref p1, .ref p2, .ref p3, .int 0, .long 0])), ((a 7), .inr (10, [.ref g, .int 0])), (g, .inl (cG, 8, .inr (.inr (.inr (.inr og))))), (b0, .inr (5, [.int 0, .ref dz, .int 0])), (b1, .inr (5, [.int 0, .ref dz, .int 0])), (b3, .inr (5, [.int 0, .ref dz, .int 0])), (oL, .inl (cL, 1, .inr (.inl (fun _ => 0)))), (oD, .inl (cD, 1, .inr (.inr (.inr (.inl (fun _ => 0)))))), (mo, .inr (23, [.int 1, .ref b0, .ref b1, .ref b2, .ref b3, .int 0, .int 0, .long 0])), (b2, .inr (5, [.int 0, .ref dz, .int 0]))] ++ va_pl LR (zrow cI)) H := hP
  have hD : va_D A ([(h0, .inr (17, zHS a)), ((a 0), .inr (6, [.ref a1, .ref a2, .int 0])), (a1, .inl (cN, 30, .inl (fun _ => 0))), ((a 1), .inl (cE, 5, .inr (.inr (.inr (.inr (fun _ => none)))))), ((a 2), .inr (11, [.ref p1, .ref p2, .ref p3, .int 0, .long 0])), ((a 7), .inr (10, [.ref g, .int 0])), (g, .inl (cG, 8, .inr (.inr (.inr (.inr og))))), (b0, .inr (5, [.int 0, .ref dz, .int 0])), (b1, .inr (5, [.int 0, .ref dz, .int 0])), (b3, .inr (5, [.int 0, .ref dz, .int 0])), (oL, .inl (cL, 1, .inr (.inl (fun _ => 0)))), (oD, .inl (cD, 1, .inr (.inr (.inr (.inl (fun _ => 0)))))), (mo, .inr (23, [.int 1, .ref b0, .ref b1, .ref b2, .ref b3, .int 0, .int 0, .long 0])), (b2, .inr (5, [.int 0, .ref dz, .int 0]))] ++ va_pl LR (zrow cI)) := hD
  have hK : va_K D vwCl [(cN, .int), (cE, .object "HeatStadium$Event"), (cG, .array .int), (cI, .int), (cL, .long), (cD, .double)] s := hK
  subst hw
  refine lv_istore (lv' := [(7, .int 0), (6, .int 1), (0, .ref b), (1, .ref h0), (2, .ref mo), (3, .ref oL), (4, .ref oD), (5, .int 0)]) hx hb dL_law_1038 hl (by decide) rfl (fun ls hl => ?_)
  refine lv_aload_n hx hb dL_law_1040 rfl (lv_at hl 4 rfl) ?_
  have hPc := hP.sub (ws' := [(mo, .inr (23, [.int 1, .ref b0, .ref b1, .ref b2, .ref b3, .int 0, .int 0, .long 0]))]) [12] rfl
  have hDc := hD.sub (ws' := [(mo, .inr (23, [.int 1, .ref b0, .ref b1, .ref b2, .ref b3, .int 0, .int 0, .long 0]))]) [12] (by decide) rfl
  have hKc := hK.sub (tys' := []) [] rfl
  have hFc : ∀ q : Nat, H.size ≤ q → A q := fun q h => hA q (Nat.le_trans hS.1 h)
  refine va_calli (va_runV (As := []) (rest := []) ⟨hx, hb, hml, hown, hts⟩ (cm_thrown l hst D H.size mo b0 b1 b2 b3 dz 1) (cwV 0 hts (goodIn_app (goodIn_of _ (by decide +kernel)) (goodIn_sub (fun _ h => List.mem_cons_of_mem _ (List.mem_append_right _ (List.mem_append_right _ (List.mem_append_right _ (List.mem_append_left _ h))))) zX17_thrown_ws_good)) rfl rfl rfl (by decide +kernel) ⟨Nat.le_of_ble_eq_true rfl, Nat.le_of_ble_eq_true rfl⟩) ⟨zPre.blind, va_recv hKc hPc (ci := 23) (q0 := 0) rfl rfl, zPre.mk hPc hKc hDc hz hS (fun q h => hFc q h)⟩ rfl rfl hl.1 rfl (lv_room (Nat.le_of_ble_eq_true rfl)) dL_law_1041 ⟨Nat.le_of_ble_eq_true rfl, Nat.le_of_ble_eq_true rfl⟩) hS (fun q _ h => hFc q h) (fun q h => hFc q h) (fun r9 u t H1 locs ht9 hvm hw hB hz1 hk1 hS => ?_)
  refine W.widen (k := 201) (n := 3006) (by omega) (by omega) ?_
  have hP := zKeep hP hk1
  generalize H1 = H at hP hS ⊢
  have hP : va_P D vwCl ([(h0, .inr (17, zHS a)), ((a 0), .inr (6, [.ref a1, .ref a2, .int 0])), (a1, .inl (cN, 30, .inl (fun _ => 0))), ((a 1), .inl (cE, 5, .inr (.inr (.inr (.inr (fun _ => none)))))), ((a 2), .inr (11, [.ref p1, .ref p2, .ref p3, .int 0, .long 0])), ((a 7), .inr (10, [.ref g, .int 0])), (g, .inl (cG, 8, .inr (.inr (.inr (.inr og))))), (b0, .inr (5, [.int 0, .ref dz, .int 0])), (b1, .inr (5, [.int 0, .ref dz, .int 0])), (b3, .inr (5, [.int 0, .ref dz, .int 0])), (oL, .inl (cL, 1, .inr (.inl (fun _ => 0)))), (oD, .inl (cD, 1, .inr (.inr (.inr (.inl (fun _ => 0)))))), (mo, .inr (23, [.int 1, .ref b0, .ref b1, .ref b2, .ref b3, .int 0, .int 0, .long 0])), (b2, .inr (5, [.int 0, .ref dz, .int 0]))] ++ va_pl LR (zrow cI)) H := hP
  subst hw
  refine lv_iload hx hb dL_law_1044 (lv_at hl 1 rfl) ?_
  refine lv_icmp_eq (tgt := 1051) hx hb dL_law_1046 (by decide) (fun _ => ?_) (fun c => absurd (by decide) c)
  refine lv_iload hx hb dL_law_1051 (lv_at hl 1 rfl) ?_
  refine lv_if_ne (tgt := 1075) hx hb dL_law_1053 (by decide) (fun _ => ?_) (fun c => absurd c (by decide))
  refine lv_goto (tgt := 2497) hx hb dL_law_1075 (by decide) ?_
  refine W.widen (k := 600) (n := 8000) (by omega) (by omega) ?_
  exact kk H _ hS ls (lv_sub hl [2, 7] rfl)

def w_lc_putOut : List Cond := .methodLink RL 174 yL_putOut :: ([.methodLink RL 174 yL_putOut, .static yL_putOut, .initialized RL, .methodLink RL 176 yX17_putOut, .instanceMethod yX17_putOut, .selects RX17 yX17_putOut yX17_putOut, .initialized RX17, .methodLink RL 134 yX17_thrown, .instanceMethod yX17_thrown, .selects RX17 yX17_thrown yX17_thrown] ++ (zL_putOut_ws ++ (zX17_putOut_ws ++ (zX17_thrown_ws ++ ([])))))
set_option maxHeartbeats 4000000 in
set_option maxRecDepth 100000 in
theorem w_lc_putOut_in : ∀ w ∈ w_lc_putOut, w ∈ lw_tbl := by decide +kernel
set_option maxHeartbeats 4000000 in
set_option maxRecDepth 100000 in
/-- the law's call of putOut -/
theorem lc_putOut {p : Program} {e : Env} {s : State} {m : MethodId} {below : List Frame} {meth : Method} {c : Code} {A : Nat → Prop} {Q : State → Prop} {b : Nat} {xs : Nat → Int32} (l : Launch) (hst : l.stackTraces = false) (D : va_G) (h0 : Nat) (a : Nat → Nat) (a1 a2 cN cE p1 p2 p3 g : Nat) (og : Nat → Option Nat) (LR : List Nat) (cG cI : Nat) (mo b0 b1 b2 b3 dz sa va oL oD cL cD : Nat) (x1 x2 x3 x4 x5 x6 : Int32) (hx : p.tables.exec = Jvm.exec) (hb : c.code = cL_law) (hml : c.maxLocals = 9) (hts : ∀ w ∈ w_lc_putOut, w.before #[Value.ref b] s = true) (hown : s.vm.findClass RL = some m.cls) (hX : va_X b 7 xs s s.heap) (hbl : b < s.heap.size) (hA : ∀ q : Nat, s.heap.size ≤ q → A q) (hbA : ¬ A b) (hz : zX A s s.heap) (hm : zMS dz sa va A s s.heap) (hg : ∀ i, i < 8 → ∃ y, og i = some y ∧ y ∈ LR) (e1 : xs (1 : Int32).toNatClampNeg = x1) (e2 : xs (2 : Int32).toNatClampNeg = x2) (e3 : xs (3 : Int32).toNatClampNeg = x3) (e4 : xs (4 : Int32).toNatClampNeg = x4) (e5 : xs (5 : Int32).toNatClampNeg = x5) (e6 : xs (6 : Int32).toNatClampNeg = x6) (kk : ∀ (H : Heap) (locs : List Loc), va_S A s.heap H locs → ∀ ls : Array Slot, lv_has ls 9 [(0, .ref b), (5, .int 0)] → W p l e room_1 s m #[Value.ref b] below meth c H locs 600 8000 Q (F0 m 2497 ls [])) (H : Heap) (locs : List Loc) (ls : Array Slot) (hP : va_P D vwCl ([(h0, .inr (17, zHS a)), ((a 0), .inr (6, [.ref a1, .ref a2, .int 0])), (a1, .inl (cN, 30, .inl (fun _ => 0))), ((a 1), .inl (cE, 5, .inr (.inr (.inr (.inr (fun _ => none)))))), ((a 2), .inr (11, [.ref p1, .ref p2, .ref p3, .int 0, .long 0])), ((a 7), .inr (10, [.ref g, .int 0])), (g, .inl (cG, 8, .inr (.inr (.inr (.inr og))))), (mo, .inr (23, [.int 0, .ref b0, .ref b1, .ref b2, .ref b3, .int 0, .int 0, .long 0])), (b0, .inr (5, [.int 0, .ref dz, .int 0])), (b1, .inr (5, [.int 0, .ref dz, .int 0])), (b2, .inr (5, [.int 0, .ref dz, .int 0])), (b3, .inr (5, [.int 0, .ref dz, .int 0])), (oL, .inl (cL, 1, .inr (.inl (fun _ => 0)))), (oD, .inl (cD, 1, .inr (.inr (.inr (.inl (fun _ => 0))))))] ++ va_pl LR (zrow cI)) H) (hD : va_D A ([(h0, .inr (17, zHS a)), ((a 0), .inr (6, [.ref a1, .ref a2, .int 0])), (a1, .inl (cN, 30, .inl (fun _ => 0))), ((a 1), .inl (cE, 5, .inr (.inr (.inr (.inr (fun _ => none)))))), ((a 2), .inr (11, [.ref p1, .ref p2, .ref p3, .int 0, .long 0])), ((a 7), .inr (10, [.ref g, .int 0])), (g, .inl (cG, 8, .inr (.inr (.inr (.inr og))))), (mo, .inr (23, [.int 0, .ref b0, .ref b1, .ref b2, .ref b3, .int 0, .int 0, .long 0])), (b0, .inr (5, [.int 0, .ref dz, .int 0])), (b1, .inr (5, [.int 0, .ref dz, .int 0])), (b2, .inr (5, [.int 0, .ref dz, .int 0])), (b3, .inr (5, [.int 0, .ref dz, .int 0])), (oL, .inl (cL, 1, .inr (.inl (fun _ => 0)))), (oD, .inl (cD, 1, .inr (.inr (.inr (.inl (fun _ => 0))))))] ++ va_pl LR (zrow cI))) (hK : va_K D vwCl [(cN, .int), (cE, .object "HeatStadium$Event"), (cG, .array .int), (cI, .int), (cL, .long), (cD, .double)] s) (hS : va_S A s.heap H locs) (hl : lv_has ls 9 [(0, .ref b), (1, .ref h0), (2, .ref mo), (3, .ref oL), (4, .ref oD), (5, .int 0)]) : W p l e room_1 s m #[Value.ref b] below meth c H locs 200 3000 Q (F0 m 1078 ls []) := by
  refine lv_aload_n hx hb dL_law_1078 rfl (lv_at hl 1 rfl) ?_
  refine lv_aload_n hx hb dL_law_1079 rfl (lv_at hl 0 rfl) ?_
  refine lv_iload hx hb dL_law_1080 (lv_at hl 5 rfl) ?_
  refine lv_iconst (v := 1) hx hb dL_law_1082 (by decide) ?_
  refine lv_iadd hx hb dL_law_1083 ?_
  refine lv_topi (fun z1 ez1 => ?_)
  obtain rfl : z1 = 1 := ez1.trans (by decide)
  refine va_sld hx hb hX hbl hbA hS (show vp_in 1 7 by unfold vp_in; decide) dL_law_1084 ?_
  rw [e1]
  refine lv_aload_n hx hb dL_law_1085 rfl (lv_at hl 0 rfl) ?_
  refine lv_iload hx hb dL_law_1086 (lv_at hl 5 rfl) ?_
  refine lv_iconst (v := 2) hx hb dL_law_1088 (by decide) ?_
  refine lv_iadd hx hb dL_law_1089 ?_
  refine lv_topi (fun z2 ez2 => ?_)
  obtain rfl : z2 = 2 := ez2.trans (by decide)
  refine va_sld hx hb hX hbl hbA hS (show vp_in 2 7 by unfold vp_in; decide) dL_law_1090 ?_
  rw [e2]
  refine lv_aload_n hx hb dL_law_1091 rfl (lv_at hl 0 rfl) ?_
  refine lv_iload hx hb dL_law_1092 (lv_at hl 5 rfl) ?_
  refine lv_iconst (v := 3) hx hb dL_law_1094 (by decide) ?_
  refine lv_iadd hx hb dL_law_1095 ?_
  refine lv_topi (fun z3 ez3 => ?_)
  obtain rfl : z3 = 3 := ez3.trans (by decide)
  refine va_sld hx hb hX hbl hbA hS (show vp_in 3 7 by unfold vp_in; decide) dL_law_1096 ?_
  rw [e3]
  refine lv_aload_n hx hb dL_law_1097 rfl (lv_at hl 3 rfl) ?_
  have hPc := hP.sub (ws' := [(h0, .inr (17, zHS a))]) [0] rfl
  have hDc := hD.sub (ws' := [(h0, .inr (17, zHS a))]) [0] (by decide) rfl
  have hKc := hK.sub (tys' := []) [] rfl
  have hFc : ∀ q : Nat, H.size ≤ q → A q := fun q h => hA q (Nat.le_trans hS.1 h)
  refine vx_calli (vx_runSX (As := [.ref h0, .int x1, .int x2, .int x3, .ref oL]) (rest := []) ⟨hx, hb, hml, hown, hts⟩ (cl_putOut l hst D H.size h0 a x1 x2 x3 oL) (vx_cwSW 5 hts (goodIn_app (goodIn_of _ (by decide +kernel)) (goodIn_sub (fun _ h => List.mem_cons_of_mem _ (List.mem_append_right _ (List.mem_append_left _ h))) zL_putOut_ws_good)) rfl rfl rfl (by decide +kernel) ⟨Nat.le_of_ble_eq_true rfl, Nat.le_of_ble_eq_true rfl⟩) ⟨zPre.blind, zPre.mk hPc hKc hDc hz hS (fun q h => hFc q h)⟩ rfl rfl hl.1 rfl (lv_room (Nat.le_of_ble_eq_true rfl)) dL_law_1098 ⟨Nat.le_of_ble_eq_true rfl, Nat.le_of_ble_eq_true rfl⟩) hS (fun q _ h => hFc q h) (fun q h => hFc q h) (fun q _ h => hFc q h) (fun E9 ce q9 u t H1 locs ht9 hvm hpx hBX hz1 hk1 hS hcell hv9 hcl => ?_) (fun r9 u t H1 locs ht9 hvm hw hB hz1 hk1 hS => ?_)
  · exact False.elim hpx
  refine W.widen (k := 201) (n := 3006) (by omega) (by omega) ?_
  have hP := zKeep hP hk1
  generalize H1 = H at hP hS ⊢
  have hP : va_P D vwCl ([(h0, .inr (17, zHS a)), ((a 0), .inr (6, [.ref a1, .ref a2, .int 0])), (a1, .inl (cN, 30, .inl (fun _ => 0))), ((a 1), .inl (cE, 5, .inr (.inr (.inr (.inr (fun _ => none)))))), ((a 2), .inr (11, [.ref p1, .ref p2, .ref p3, .int 0, .long 0])), ((a 7), .inr (10, [.ref g, .int 0])), (g, .inl (cG, 8, .inr (.inr (.inr (.inr og))))), (mo, .inr (23, [.int 0, .ref b0, .ref b1, .ref b2, .ref b3, .int 0, .int 0, .long 0])), (b0, .inr (5, [.int 0, .ref dz, .int 0])), (b1, .inr (5, [.int 0, .ref dz, .int 0])), (b2, .inr (5, [.int 0, .ref dz, .int 0])), (b3, .inr (5, [.int 0, .ref dz, .int 0])), (oL, .inl (cL, 1, .inr (.inl (fun _ => 0)))), (oD, .inl (cD, 1, .inr (.inr (.inr (.inl (fun _ => 0))))))] ++ va_pl LR (zrow cI)) H := hP
  subst hw
  refine lv_istore (lv' := [(6, .int 1), (0, .ref b), (1, .ref h0), (2, .ref mo), (3, .ref oL), (4, .ref oD), (5, .int 0)]) hx hb dL_law_1101 hl (by decide) rfl (fun ls hl => ?_)
  refine lv_aload_n hx hb dL_law_1103 rfl (lv_at hl 3 rfl) ?_
  refine lv_aload_n hx hb dL_law_1104 rfl (lv_at hl 1 rfl) ?_
  refine lv_iload hx hb dL_law_1105 (lv_at hl 6 rfl) ?_
  refine lv_iconst (v := 1) hx hb dL_law_1107 (by decide) ?_
  refine lv_iadd hx hb dL_law_1108 ?_
  refine lv_topi (fun z4 ez4 => ?_)
  obtain rfl : z4 = 1 := ez4.trans (by decide)
  refine va_sld hx hb hX hbl hbA hS (show vp_in 1 7 by unfold vp_in; decide) dL_law_1109 ?_
  rw [e1]
  refine lv_aload_n hx hb dL_law_1110 rfl (lv_at hl 1 rfl) ?_
  refine lv_iload hx hb dL_law_1111 (lv_at hl 6 rfl) ?_
  refine lv_iconst (v := 2) hx hb dL_law_1113 (by decide) ?_
  refine lv_iadd hx hb dL_law_1114 ?_
  refine lv_topi (fun z5 ez5 => ?_)
  obtain rfl : z5 = 2 := ez5.trans (by decide)
  refine va_sld hx hb hX hbl hbA hS (show vp_in 2 7 by unfold vp_in; decide) dL_law_1115 ?_
  rw [e2]
  refine lv_aload_n hx hb dL_law_1116 rfl (lv_at hl 1 rfl) ?_
  refine lv_iload hx hb dL_law_1117 (lv_at hl 6 rfl) ?_
  refine lv_iconst (v := 3) hx hb dL_law_1119 (by decide) ?_
  refine lv_iadd hx hb dL_law_1120 ?_
  refine lv_topi (fun z6 ez6 => ?_)
  obtain rfl : z6 = 3 := ez6.trans (by decide)
  refine va_sld hx hb hX hbl hbA hS (show vp_in 3 7 by unfold vp_in; decide) dL_law_1121 ?_
  rw [e3]
  have hPc := hP.sub (ws' := [(mo, .inr (23, [.int 0, .ref b0, .ref b1, .ref b2, .ref b3, .int 0, .int 0, .long 0])), (b2, .inr (5, [.int 0, .ref dz, .int 0]))]) [7, 10] rfl
  have hDc := hD.sub (ws' := [(mo, .inr (23, [.int 0, .ref b0, .ref b1, .ref b2, .ref b3, .int 0, .int 0, .long 0])), (b2, .inr (5, [.int 0, .ref dz, .int 0]))]) [7, 10] (by decide) rfl
  have hKc := hK.sub (tys' := []) [] rfl
  have hFc := va_free (wc := [(mo, .inr (23, [.int 0, .ref b0, .ref b1, .ref b2, .ref b3, .int 0, .int 0, .long 0])), (b2, .inr (5, [.int 0, .ref dz, .int 0]))]) hD hS hA [7, 10] rfl
  refine va_calli (va_runV (As := [.int x1, .int x2, .int x3]) (rest := []) ⟨hx, hb, hml, hown, hts⟩ (cm_putOut l hst D H.size mo b0 b1 b2 b3 dz 0 x1 x2 x3) (cwV 3 hts (goodIn_app (goodIn_of _ (by decide +kernel)) (goodIn_sub (fun _ h => List.mem_cons_of_mem _ (List.mem_append_right _ (List.mem_append_right _ (List.mem_append_left _ h)))) zX17_putOut_ws_good)) rfl rfl rfl (by decide +kernel) ⟨Nat.le_of_ble_eq_true rfl, Nat.le_of_ble_eq_true rfl⟩) ⟨zPre.blind, va_recv hKc hPc (ci := 23) (q0 := 0) rfl rfl, zPre.mk hPc hKc hDc hz hS (fun q h => hFc q h)⟩ rfl rfl hl.1 rfl (lv_room (Nat.le_of_ble_eq_true rfl)) dL_law_1122 ⟨Nat.le_of_ble_eq_true rfl, Nat.le_of_ble_eq_true rfl⟩) hS (fun q _ h => hFc q h) (fun q h => hFc q h) (fun r9 u t H1 locs ht9 hvm hw hB hz1 hk1 hS => ?_)
  refine W.widen (k := 201) (n := 3006) (by omega) (by omega) ?_
  obtain ⟨hP1, hK1, hD1⟩ := hB
  rw [ht9] at hP1
  have hK1 := va_K.moved hvm.symm hK1
  obtain ⟨hP, hD⟩ := va_joinQ (wr := [(h0, .inr (17, zHS a)), ((a 0), .inr (6, [.ref a1, .ref a2, .int 0])), (a1, .inl (cN, 30, .inl (fun _ => 0))), ((a 1), .inl (cE, 5, .inr (.inr (.inr (.inr (fun _ => none)))))), ((a 2), .inr (11, [.ref p1, .ref p2, .ref p3, .int 0, .long 0])), ((a 7), .inr (10, [.ref g, .int 0])), (g, .inl (cG, 8, .inr (.inr (.inr (.inr og))))), (b0, .inr (5, [.int 0, .ref dz, .int 0])), (b1, .inr (5, [.int 0, .ref dz, .int 0])), (b3, .inr (5, [.int 0, .ref dz, .int 0])), (oL, .inl (cL, 1, .inr (.inl (fun _ => 0)))), (oD, .inl (cD, 1, .inr (.inr (.inr (.inl (fun _ => 0))))))]) (w1 := [(mo, .inr (23, [.int 1, .ref b0, .ref b1, .ref b2, .ref b3, .int 0, .int 0, .long 0])), (b2, .inr (5, [.int 0, .ref dz, .int 0]))]) hP hD [7, 10] [0, 1, 2, 3, 4, 5, 6, 8, 9, 11, 12, 13] rfl rfl (by decide) (by decide) hk1 hFc hP1 hD1
  have hK := (hK.sub (tys' := [(cN, .int), (cE, .object "HeatStadium$Event"), (cG, .array .int), (cI, .int), (cL, .long), (cD, .double)]) [0, 1, 2, 3, 4, 5] rfl).app hK1
  generalize H1 = H at hP hS ⊢
  have hP : va_P D vwCl ([(h0, .inr (17, zHS a)), ((a 0), .inr (6, [.ref a1, .ref a2, .int 0])), (a1, .inl (cN, 30, .inl (fun _ => 0))), ((a 1), .inl (cE, 5, .inr (.inr (.inr (.inr (fun _ => none)))))), ((a 2), .inr (11, [.ref p1, .ref p2, .ref p3, .int 0, .long 0])), ((a 7), .inr (10, [.ref g, .int 0])), (g, .inl (cG, 8, .inr (.inr (.inr (.inr og))))), (b0, .inr (5, [.int 0, .ref dz, .int 0])), (b1, .inr (5, [.int 0, .ref dz, .int 0])), (b3, .inr (5, [.int 0, .ref dz, .int 0])), (oL, .inl (cL, 1, .inr (.inl (fun _ => 0)))), (oD, .inl (cD, 1, .inr (.inr (.inr (.inl (fun _ => 0)))))), (mo, .inr (23, [.int 1, .ref b0, .ref b1, .ref b2, .ref b3, .int 0, .int 0, .long 0])), (b2, .inr (5, [.int 0, .ref dz, .int 0]))] ++ va_pl LR (zrow cI)) H := hP
  have hD : va_D A ([(h0, .inr (17, zHS a)), ((a 0), .inr (6, [.ref a1, .ref a2, .int 0])), (a1, .inl (cN, 30, .inl (fun _ => 0))), ((a 1), .inl (cE, 5, .inr (.inr (.inr (.inr (fun _ => none)))))), ((a 2), .inr (11, [.ref p1, .ref p2, .ref p3, .int 0, .long 0])), ((a 7), .inr (10, [.ref g, .int 0])), (g, .inl (cG, 8, .inr (.inr (.inr (.inr og))))), (b0, .inr (5, [.int 0, .ref dz, .int 0])), (b1, .inr (5, [.int 0, .ref dz, .int 0])), (b3, .inr (5, [.int 0, .ref dz, .int 0])), (oL, .inl (cL, 1, .inr (.inl (fun _ => 0)))), (oD, .inl (cD, 1, .inr (.inr (.inr (.inl (fun _ => 0)))))), (mo, .inr (23, [.int 1, .ref b0, .ref b1, .ref b2, .ref b3, .int 0, .int 0, .long 0])), (b2, .inr (5, [.int 0, .ref dz, .int 0]))] ++ va_pl LR (zrow cI)) := hD
  have hK : va_K D vwCl [(cN, .int), (cE, .object "HeatStadium$Event"), (cG, .array .int), (cI, .int), (cL, .long), (cD, .double)] s := hK
  subst hw
  refine lv_istore (lv' := [(7, .int 0), (6, .int 1), (0, .ref b), (1, .ref h0), (2, .ref mo), (3, .ref oL), (4, .ref oD), (5, .int 0)]) hx hb dL_law_1125 hl (by decide) rfl (fun ls hl => ?_)
  refine lv_aload_n hx hb dL_law_1127 rfl (lv_at hl 4 rfl) ?_
  have hPc := hP.sub (ws' := [(mo, .inr (23, [.int 1, .ref b0, .ref b1, .ref b2, .ref b3, .int 0, .int 0, .long 0]))]) [12] rfl
  have hDc := hD.sub (ws' := [(mo, .inr (23, [.int 1, .ref b0, .ref b1, .ref b2, .ref b3, .int 0, .int 0, .long 0]))]) [12] (by decide) rfl
  have hKc := hK.sub (tys' := []) [] rfl
  have hFc : ∀ q : Nat, H.size ≤ q → A q := fun q h => hA q (Nat.le_trans hS.1 h)
  refine va_calli (va_runV (As := []) (rest := []) ⟨hx, hb, hml, hown, hts⟩ (cm_thrown l hst D H.size mo b0 b1 b2 b3 dz 1) (cwV 0 hts (goodIn_app (goodIn_of _ (by decide +kernel)) (goodIn_sub (fun _ h => List.mem_cons_of_mem _ (List.mem_append_right _ (List.mem_append_right _ (List.mem_append_right _ (List.mem_append_left _ h))))) zX17_thrown_ws_good)) rfl rfl rfl (by decide +kernel) ⟨Nat.le_of_ble_eq_true rfl, Nat.le_of_ble_eq_true rfl⟩) ⟨zPre.blind, va_recv hKc hPc (ci := 23) (q0 := 0) rfl rfl, zPre.mk hPc hKc hDc hz hS (fun q h => hFc q h)⟩ rfl rfl hl.1 rfl (lv_room (Nat.le_of_ble_eq_true rfl)) dL_law_1128 ⟨Nat.le_of_ble_eq_true rfl, Nat.le_of_ble_eq_true rfl⟩) hS (fun q _ h => hFc q h) (fun q h => hFc q h) (fun r9 u t H1 locs ht9 hvm hw hB hz1 hk1 hS => ?_)
  refine W.widen (k := 201) (n := 3006) (by omega) (by omega) ?_
  have hP := zKeep hP hk1
  generalize H1 = H at hP hS ⊢
  have hP : va_P D vwCl ([(h0, .inr (17, zHS a)), ((a 0), .inr (6, [.ref a1, .ref a2, .int 0])), (a1, .inl (cN, 30, .inl (fun _ => 0))), ((a 1), .inl (cE, 5, .inr (.inr (.inr (.inr (fun _ => none)))))), ((a 2), .inr (11, [.ref p1, .ref p2, .ref p3, .int 0, .long 0])), ((a 7), .inr (10, [.ref g, .int 0])), (g, .inl (cG, 8, .inr (.inr (.inr (.inr og))))), (b0, .inr (5, [.int 0, .ref dz, .int 0])), (b1, .inr (5, [.int 0, .ref dz, .int 0])), (b3, .inr (5, [.int 0, .ref dz, .int 0])), (oL, .inl (cL, 1, .inr (.inl (fun _ => 0)))), (oD, .inl (cD, 1, .inr (.inr (.inr (.inl (fun _ => 0)))))), (mo, .inr (23, [.int 1, .ref b0, .ref b1, .ref b2, .ref b3, .int 0, .int 0, .long 0])), (b2, .inr (5, [.int 0, .ref dz, .int 0]))] ++ va_pl LR (zrow cI)) H := hP
  subst hw
  refine lv_iload hx hb dL_law_1131 (lv_at hl 1 rfl) ?_
  refine lv_icmp_eq (tgt := 1138) hx hb dL_law_1133 (by decide) (fun _ => ?_) (fun c => absurd (by decide) c)
  refine lv_iload hx hb dL_law_1138 (lv_at hl 1 rfl) ?_
  refine lv_if_ne (tgt := 1162) hx hb dL_law_1140 (by decide) (fun _ => ?_) (fun c => absurd c (by decide))
  refine lv_goto (tgt := 2497) hx hb dL_law_1162 (by decide) ?_
  refine W.widen (k := 600) (n := 8000) (by omega) (by omega) ?_
  exact kk H _ hS ls (lv_sub hl [2, 7] rfl)

def w_lc_isOut : List Cond := .methodLink RL 177 yL_isOut :: ([.methodLink RL 177 yL_isOut, .static yL_isOut, .initialized RL, .methodLink RL 179 yX17_isOut, .instanceMethod yX17_isOut, .selects RX17 yX17_isOut yX17_isOut, .initialized RX17, .methodLink RL 134 yX17_thrown, .instanceMethod yX17_thrown, .selects RX17 yX17_thrown yX17_thrown] ++ (zL_isOut_ws ++ (zX17_isOut_ws ++ (zX17_thrown_ws ++ ([])))))
set_option maxHeartbeats 4000000 in
set_option maxRecDepth 100000 in
theorem w_lc_isOut_in : ∀ w ∈ w_lc_isOut, w ∈ lw_tbl := by decide +kernel
set_option maxHeartbeats 4000000 in
set_option maxRecDepth 100000 in
/-- the law's call of isOut -/
theorem lc_isOut {p : Program} {e : Env} {s : State} {m : MethodId} {below : List Frame} {meth : Method} {c : Code} {A : Nat → Prop} {Q : State → Prop} {b : Nat} {xs : Nat → Int32} (l : Launch) (hst : l.stackTraces = false) (D : va_G) (h0 : Nat) (a : Nat → Nat) (a1 a2 cN cE p1 p2 p3 g : Nat) (og : Nat → Option Nat) (LR : List Nat) (cG cI : Nat) (mo b0 b1 b2 b3 dz sa va oL oD cL cD : Nat) (x1 x2 x3 x4 x5 x6 : Int32) (hx : p.tables.exec = Jvm.exec) (hb : c.code = cL_law) (hml : c.maxLocals = 9) (hts : ∀ w ∈ w_lc_isOut, w.before #[Value.ref b] s = true) (hown : s.vm.findClass RL = some m.cls) (hX : va_X b 7 xs s s.heap) (hbl : b < s.heap.size) (hA : ∀ q : Nat, s.heap.size ≤ q → A q) (hbA : ¬ A b) (hz : zX A s s.heap) (hm : zMS dz sa va A s s.heap) (hg : ∀ i, i < 8 → ∃ y, og i = some y ∧ y ∈ LR) (e1 : xs (1 : Int32).toNatClampNeg = x1) (e2 : xs (2 : Int32).toNatClampNeg = x2) (e3 : xs (3 : Int32).toNatClampNeg = x3) (e4 : xs (4 : Int32).toNatClampNeg = x4) (e5 : xs (5 : Int32).toNatClampNeg = x5) (e6 : xs (6 : Int32).toNatClampNeg = x6) (kk : ∀ (H : Heap) (locs : List Loc), va_S A s.heap H locs → ∀ ls : Array Slot, lv_has ls 9 [(0, .ref b), (5, .int 0)] → W p l e room_1 s m #[Value.ref b] below meth c H locs 600 8000 Q (F0 m 2497 ls [])) (H : Heap) (locs : List Loc) (ls : Array Slot) (hP : va_P D vwCl ([(h0, .inr (17, zHS a)), ((a 0), .inr (6, [.ref a1, .ref a2, .int 0])), (a1, .inl (cN, 30, .inl (fun _ => 0))), ((a 1), .inl (cE, 5, .inr (.inr (.inr (.inr (fun _ => none)))))), ((a 2), .inr (11, [.ref p1, .ref p2, .ref p3, .int 0, .long 0])), ((a 7), .inr (10, [.ref g, .int 0])), (g, .inl (cG, 8, .inr (.inr (.inr (.inr og))))), (mo, .inr (23, [.int 0, .ref b0, .ref b1, .ref b2, .ref b3, .int 0, .int 0, .long 0])), (b0, .inr (5, [.int 0, .ref dz, .int 0])), (b1, .inr (5, [.int 0, .ref dz, .int 0])), (b2, .inr (5, [.int 0, .ref dz, .int 0])), (b3, .inr (5, [.int 0, .ref dz, .int 0])), (oL, .inl (cL, 1, .inr (.inl (fun _ => 0)))), (oD, .inl (cD, 1, .inr (.inr (.inr (.inl (fun _ => 0))))))] ++ va_pl LR (zrow cI)) H) (hD : va_D A ([(h0, .inr (17, zHS a)), ((a 0), .inr (6, [.ref a1, .ref a2, .int 0])), (a1, .inl (cN, 30, .inl (fun _ => 0))), ((a 1), .inl (cE, 5, .inr (.inr (.inr (.inr (fun _ => none)))))), ((a 2), .inr (11, [.ref p1, .ref p2, .ref p3, .int 0, .long 0])), ((a 7), .inr (10, [.ref g, .int 0])), (g, .inl (cG, 8, .inr (.inr (.inr (.inr og))))), (mo, .inr (23, [.int 0, .ref b0, .ref b1, .ref b2, .ref b3, .int 0, .int 0, .long 0])), (b0, .inr (5, [.int 0, .ref dz, .int 0])), (b1, .inr (5, [.int 0, .ref dz, .int 0])), (b2, .inr (5, [.int 0, .ref dz, .int 0])), (b3, .inr (5, [.int 0, .ref dz, .int 0])), (oL, .inl (cL, 1, .inr (.inl (fun _ => 0)))), (oD, .inl (cD, 1, .inr (.inr (.inr (.inl (fun _ => 0))))))] ++ va_pl LR (zrow cI))) (hK : va_K D vwCl [(cN, .int), (cE, .object "HeatStadium$Event"), (cG, .array .int), (cI, .int), (cL, .long), (cD, .double)] s) (hS : va_S A s.heap H locs) (hl : lv_has ls 9 [(0, .ref b), (1, .ref h0), (2, .ref mo), (3, .ref oL), (4, .ref oD), (5, .int 0)]) : W p l e room_1 s m #[Value.ref b] below meth c H locs 200 3000 Q (F0 m 1165 ls []) := by
  refine lv_aload_n hx hb dL_law_1165 rfl (lv_at hl 1 rfl) ?_
  refine lv_aload_n hx hb dL_law_1166 rfl (lv_at hl 0 rfl) ?_
  refine lv_iload hx hb dL_law_1167 (lv_at hl 5 rfl) ?_
  refine lv_iconst (v := 1) hx hb dL_law_1169 (by decide) ?_
  refine lv_iadd hx hb dL_law_1170 ?_
  refine lv_topi (fun z1 ez1 => ?_)
  obtain rfl : z1 = 1 := ez1.trans (by decide)
  refine va_sld hx hb hX hbl hbA hS (show vp_in 1 7 by unfold vp_in; decide) dL_law_1171 ?_
  rw [e1]
  refine lv_aload_n hx hb dL_law_1172 rfl (lv_at hl 0 rfl) ?_
  refine lv_iload hx hb dL_law_1173 (lv_at hl 5 rfl) ?_
  refine lv_iconst (v := 2) hx hb dL_law_1175 (by decide) ?_
  refine lv_iadd hx hb dL_law_1176 ?_
  refine lv_topi (fun z2 ez2 => ?_)
  obtain rfl : z2 = 2 := ez2.trans (by decide)
  refine va_sld hx hb hX hbl hbA hS (show vp_in 2 7 by unfold vp_in; decide) dL_law_1177 ?_
  rw [e2]
  refine lv_aload_n hx hb dL_law_1178 rfl (lv_at hl 0 rfl) ?_
  refine lv_iload hx hb dL_law_1179 (lv_at hl 5 rfl) ?_
  refine lv_iconst (v := 3) hx hb dL_law_1181 (by decide) ?_
  refine lv_iadd hx hb dL_law_1182 ?_
  refine lv_topi (fun z3 ez3 => ?_)
  obtain rfl : z3 = 3 := ez3.trans (by decide)
  refine va_sld hx hb hX hbl hbA hS (show vp_in 3 7 by unfold vp_in; decide) dL_law_1183 ?_
  rw [e3]
  refine lv_aload_n hx hb dL_law_1184 rfl (lv_at hl 3 rfl) ?_
  have hPc := hP.sub (ws' := [(h0, .inr (17, zHS a))]) [0] rfl
  have hDc := hD.sub (ws' := [(h0, .inr (17, zHS a))]) [0] (by decide) rfl
  have hKc := hK.sub (tys' := []) [] rfl
  have hFc : ∀ q : Nat, H.size ≤ q → A q := fun q h => hA q (Nat.le_trans hS.1 h)
  refine vx_calli (vx_runSX (As := [.ref h0, .int x1, .int x2, .int x3, .ref oL]) (rest := []) ⟨hx, hb, hml, hown, hts⟩ (cl_isOut l hst D H.size h0 a x1 x2 x3 oL) (vx_cwSW 5 hts (goodIn_app (goodIn_of _ (by decide +kernel)) (goodIn_sub (fun _ h => List.mem_cons_of_mem _ (List.mem_append_right _ (List.mem_append_left _ h))) zL_isOut_ws_good)) rfl rfl rfl (by decide +kernel) ⟨Nat.le_of_ble_eq_true rfl, Nat.le_of_ble_eq_true rfl⟩) ⟨zPre.blind, zPre.mk hPc hKc hDc hz hS (fun q h => hFc q h)⟩ rfl rfl hl.1 rfl (lv_room (Nat.le_of_ble_eq_true rfl)) dL_law_1185 ⟨Nat.le_of_ble_eq_true rfl, Nat.le_of_ble_eq_true rfl⟩) hS (fun q _ h => hFc q h) (fun q h => hFc q h) (fun q _ h => hFc q h) (fun E9 ce q9 u t H1 locs ht9 hvm hpx hBX hz1 hk1 hS hcell hv9 hcl => ?_) (fun r9 u t H1 locs ht9 hvm hw hB hz1 hk1 hS => ?_)
  · exact False.elim hpx
  refine W.widen (k := 201) (n := 3006) (by omega) (by omega) ?_
  have hP := zKeep hP hk1
  generalize H1 = H at hP hS ⊢
  have hP : va_P D vwCl ([(h0, .inr (17, zHS a)), ((a 0), .inr (6, [.ref a1, .ref a2, .int 0])), (a1, .inl (cN, 30, .inl (fun _ => 0))), ((a 1), .inl (cE, 5, .inr (.inr (.inr (.inr (fun _ => none)))))), ((a 2), .inr (11, [.ref p1, .ref p2, .ref p3, .int 0, .long 0])), ((a 7), .inr (10, [.ref g, .int 0])), (g, .inl (cG, 8, .inr (.inr (.inr (.inr og))))), (mo, .inr (23, [.int 0, .ref b0, .ref b1, .ref b2, .ref b3, .int 0, .int 0, .long 0])), (b0, .inr (5, [.int 0, .ref dz, .int 0])), (b1, .inr (5, [.int 0, .ref dz, .int 0])), (b2, .inr (5, [.int 0, .ref dz, .int 0])), (b3, .inr (5, [.int 0, .ref dz, .int 0])), (oL, .inl (cL, 1, .inr (.inl (fun _ => 0)))), (oD, .inl (cD, 1, .inr (.inr (.inr (.inl (fun _ => 0))))))] ++ va_pl LR (zrow cI)) H := hP
  subst hw
  refine lv_istore (lv' := [(6, .int 1), (0, .ref b), (1, .ref h0), (2, .ref mo), (3, .ref oL), (4, .ref oD), (5, .int 0)]) hx hb dL_law_1188 hl (by decide) rfl (fun ls hl => ?_)
  refine lv_aload_n hx hb dL_law_1190 rfl (lv_at hl 3 rfl) ?_
  refine lv_aload_n hx hb dL_law_1191 rfl (lv_at hl 1 rfl) ?_
  refine lv_iload hx hb dL_law_1192 (lv_at hl 6 rfl) ?_
  refine lv_iconst (v := 1) hx hb dL_law_1194 (by decide) ?_
  refine lv_iadd hx hb dL_law_1195 ?_
  refine lv_topi (fun z4 ez4 => ?_)
  obtain rfl : z4 = 1 := ez4.trans (by decide)
  refine va_sld hx hb hX hbl hbA hS (show vp_in 1 7 by unfold vp_in; decide) dL_law_1196 ?_
  rw [e1]
  refine lv_aload_n hx hb dL_law_1197 rfl (lv_at hl 1 rfl) ?_
  refine lv_iload hx hb dL_law_1198 (lv_at hl 6 rfl) ?_
  refine lv_iconst (v := 2) hx hb dL_law_1200 (by decide) ?_
  refine lv_iadd hx hb dL_law_1201 ?_
  refine lv_topi (fun z5 ez5 => ?_)
  obtain rfl : z5 = 2 := ez5.trans (by decide)
  refine va_sld hx hb hX hbl hbA hS (show vp_in 2 7 by unfold vp_in; decide) dL_law_1202 ?_
  rw [e2]
  refine lv_aload_n hx hb dL_law_1203 rfl (lv_at hl 1 rfl) ?_
  refine lv_iload hx hb dL_law_1204 (lv_at hl 6 rfl) ?_
  refine lv_iconst (v := 3) hx hb dL_law_1206 (by decide) ?_
  refine lv_iadd hx hb dL_law_1207 ?_
  refine lv_topi (fun z6 ez6 => ?_)
  obtain rfl : z6 = 3 := ez6.trans (by decide)
  refine va_sld hx hb hX hbl hbA hS (show vp_in 3 7 by unfold vp_in; decide) dL_law_1208 ?_
  rw [e3]
  have hPc := hP.sub (ws' := [(mo, .inr (23, [.int 0, .ref b0, .ref b1, .ref b2, .ref b3, .int 0, .int 0, .long 0])), (b2, .inr (5, [.int 0, .ref dz, .int 0]))]) [7, 10] rfl
  have hDc := hD.sub (ws' := [(mo, .inr (23, [.int 0, .ref b0, .ref b1, .ref b2, .ref b3, .int 0, .int 0, .long 0])), (b2, .inr (5, [.int 0, .ref dz, .int 0]))]) [7, 10] (by decide) rfl
  have hKc := hK.sub (tys' := []) [] rfl
  have hFc := va_free (wc := [(mo, .inr (23, [.int 0, .ref b0, .ref b1, .ref b2, .ref b3, .int 0, .int 0, .long 0])), (b2, .inr (5, [.int 0, .ref dz, .int 0]))]) hD hS hA [7, 10] rfl
  refine va_calli (va_runV (As := [.int x1, .int x2, .int x3]) (rest := []) ⟨hx, hb, hml, hown, hts⟩ (cm_isOut l hst D H.size mo b0 b1 b2 b3 dz 0 x1 x2 x3) (cwV 3 hts (goodIn_app (goodIn_of _ (by decide +kernel)) (goodIn_sub (fun _ h => List.mem_cons_of_mem _ (List.mem_append_right _ (List.mem_append_right _ (List.mem_append_left _ h)))) zX17_isOut_ws_good)) rfl rfl rfl (by decide +kernel) ⟨Nat.le_of_ble_eq_true rfl, Nat.le_of_ble_eq_true rfl⟩) ⟨zPre.blind, va_recv hKc hPc (ci := 23) (q0 := 0) rfl rfl, zPre.mk hPc hKc hDc hz hS (fun q h => hFc q h)⟩ rfl rfl hl.1 rfl (lv_room (Nat.le_of_ble_eq_true rfl)) dL_law_1209 ⟨Nat.le_of_ble_eq_true rfl, Nat.le_of_ble_eq_true rfl⟩) hS (fun q _ h => hFc q h) (fun q h => hFc q h) (fun r9 u t H1 locs ht9 hvm hw hB hz1 hk1 hS => ?_)
  refine W.widen (k := 201) (n := 3006) (by omega) (by omega) ?_
  obtain ⟨hP1, hK1, hD1⟩ := hB
  rw [ht9] at hP1
  have hK1 := va_K.moved hvm.symm hK1
  obtain ⟨hP, hD⟩ := va_joinQ (wr := [(h0, .inr (17, zHS a)), ((a 0), .inr (6, [.ref a1, .ref a2, .int 0])), (a1, .inl (cN, 30, .inl (fun _ => 0))), ((a 1), .inl (cE, 5, .inr (.inr (.inr (.inr (fun _ => none)))))), ((a 2), .inr (11, [.ref p1, .ref p2, .ref p3, .int 0, .long 0])), ((a 7), .inr (10, [.ref g, .int 0])), (g, .inl (cG, 8, .inr (.inr (.inr (.inr og))))), (b0, .inr (5, [.int 0, .ref dz, .int 0])), (b1, .inr (5, [.int 0, .ref dz, .int 0])), (b3, .inr (5, [.int 0, .ref dz, .int 0])), (oL, .inl (cL, 1, .inr (.inl (fun _ => 0)))), (oD, .inl (cD, 1, .inr (.inr (.inr (.inl (fun _ => 0))))))]) (w1 := [(mo, .inr (23, [.int 1, .ref b0, .ref b1, .ref b2, .ref b3, .int 0, .int 0, .long 0])), (b2, .inr (5, [.int 0, .ref dz, .int 0]))]) hP hD [7, 10] [0, 1, 2, 3, 4, 5, 6, 8, 9, 11, 12, 13] rfl rfl (by decide) (by decide) hk1 hFc hP1 hD1
  have hK := (hK.sub (tys' := [(cN, .int), (cE, .object "HeatStadium$Event"), (cG, .array .int), (cI, .int), (cL, .long), (cD, .double)]) [0, 1, 2, 3, 4, 5] rfl).app hK1
  generalize H1 = H at hP hS ⊢
  have hP : va_P D vwCl ([(h0, .inr (17, zHS a)), ((a 0), .inr (6, [.ref a1, .ref a2, .int 0])), (a1, .inl (cN, 30, .inl (fun _ => 0))), ((a 1), .inl (cE, 5, .inr (.inr (.inr (.inr (fun _ => none)))))), ((a 2), .inr (11, [.ref p1, .ref p2, .ref p3, .int 0, .long 0])), ((a 7), .inr (10, [.ref g, .int 0])), (g, .inl (cG, 8, .inr (.inr (.inr (.inr og))))), (b0, .inr (5, [.int 0, .ref dz, .int 0])), (b1, .inr (5, [.int 0, .ref dz, .int 0])), (b3, .inr (5, [.int 0, .ref dz, .int 0])), (oL, .inl (cL, 1, .inr (.inl (fun _ => 0)))), (oD, .inl (cD, 1, .inr (.inr (.inr (.inl (fun _ => 0)))))), (mo, .inr (23, [.int 1, .ref b0, .ref b1, .ref b2, .ref b3, .int 0, .int 0, .long 0])), (b2, .inr (5, [.int 0, .ref dz, .int 0]))] ++ va_pl LR (zrow cI)) H := hP
  have hD : va_D A ([(h0, .inr (17, zHS a)), ((a 0), .inr (6, [.ref a1, .ref a2, .int 0])), (a1, .inl (cN, 30, .inl (fun _ => 0))), ((a 1), .inl (cE, 5, .inr (.inr (.inr (.inr (fun _ => none)))))), ((a 2), .inr (11, [.ref p1, .ref p2, .ref p3, .int 0, .long 0])), ((a 7), .inr (10, [.ref g, .int 0])), (g, .inl (cG, 8, .inr (.inr (.inr (.inr og))))), (b0, .inr (5, [.int 0, .ref dz, .int 0])), (b1, .inr (5, [.int 0, .ref dz, .int 0])), (b3, .inr (5, [.int 0, .ref dz, .int 0])), (oL, .inl (cL, 1, .inr (.inl (fun _ => 0)))), (oD, .inl (cD, 1, .inr (.inr (.inr (.inl (fun _ => 0)))))), (mo, .inr (23, [.int 1, .ref b0, .ref b1, .ref b2, .ref b3, .int 0, .int 0, .long 0])), (b2, .inr (5, [.int 0, .ref dz, .int 0]))] ++ va_pl LR (zrow cI)) := hD
  have hK : va_K D vwCl [(cN, .int), (cE, .object "HeatStadium$Event"), (cG, .array .int), (cI, .int), (cL, .long), (cD, .double)] s := hK
  subst hw
  refine lv_istore (lv' := [(7, .int 0), (6, .int 1), (0, .ref b), (1, .ref h0), (2, .ref mo), (3, .ref oL), (4, .ref oD), (5, .int 0)]) hx hb dL_law_1212 hl (by decide) rfl (fun ls hl => ?_)
  refine lv_aload_n hx hb dL_law_1214 rfl (lv_at hl 4 rfl) ?_
  have hPc := hP.sub (ws' := [(mo, .inr (23, [.int 1, .ref b0, .ref b1, .ref b2, .ref b3, .int 0, .int 0, .long 0]))]) [12] rfl
  have hDc := hD.sub (ws' := [(mo, .inr (23, [.int 1, .ref b0, .ref b1, .ref b2, .ref b3, .int 0, .int 0, .long 0]))]) [12] (by decide) rfl
  have hKc := hK.sub (tys' := []) [] rfl
  have hFc : ∀ q : Nat, H.size ≤ q → A q := fun q h => hA q (Nat.le_trans hS.1 h)
  refine va_calli (va_runV (As := []) (rest := []) ⟨hx, hb, hml, hown, hts⟩ (cm_thrown l hst D H.size mo b0 b1 b2 b3 dz 1) (cwV 0 hts (goodIn_app (goodIn_of _ (by decide +kernel)) (goodIn_sub (fun _ h => List.mem_cons_of_mem _ (List.mem_append_right _ (List.mem_append_right _ (List.mem_append_right _ (List.mem_append_left _ h))))) zX17_thrown_ws_good)) rfl rfl rfl (by decide +kernel) ⟨Nat.le_of_ble_eq_true rfl, Nat.le_of_ble_eq_true rfl⟩) ⟨zPre.blind, va_recv hKc hPc (ci := 23) (q0 := 0) rfl rfl, zPre.mk hPc hKc hDc hz hS (fun q h => hFc q h)⟩ rfl rfl hl.1 rfl (lv_room (Nat.le_of_ble_eq_true rfl)) dL_law_1215 ⟨Nat.le_of_ble_eq_true rfl, Nat.le_of_ble_eq_true rfl⟩) hS (fun q _ h => hFc q h) (fun q h => hFc q h) (fun r9 u t H1 locs ht9 hvm hw hB hz1 hk1 hS => ?_)
  refine W.widen (k := 201) (n := 3006) (by omega) (by omega) ?_
  have hP := zKeep hP hk1
  generalize H1 = H at hP hS ⊢
  have hP : va_P D vwCl ([(h0, .inr (17, zHS a)), ((a 0), .inr (6, [.ref a1, .ref a2, .int 0])), (a1, .inl (cN, 30, .inl (fun _ => 0))), ((a 1), .inl (cE, 5, .inr (.inr (.inr (.inr (fun _ => none)))))), ((a 2), .inr (11, [.ref p1, .ref p2, .ref p3, .int 0, .long 0])), ((a 7), .inr (10, [.ref g, .int 0])), (g, .inl (cG, 8, .inr (.inr (.inr (.inr og))))), (b0, .inr (5, [.int 0, .ref dz, .int 0])), (b1, .inr (5, [.int 0, .ref dz, .int 0])), (b3, .inr (5, [.int 0, .ref dz, .int 0])), (oL, .inl (cL, 1, .inr (.inl (fun _ => 0)))), (oD, .inl (cD, 1, .inr (.inr (.inr (.inl (fun _ => 0)))))), (mo, .inr (23, [.int 1, .ref b0, .ref b1, .ref b2, .ref b3, .int 0, .int 0, .long 0])), (b2, .inr (5, [.int 0, .ref dz, .int 0]))] ++ va_pl LR (zrow cI)) H := hP
  subst hw
  refine lv_iload hx hb dL_law_1218 (lv_at hl 1 rfl) ?_
  refine lv_icmp_eq (tgt := 1225) hx hb dL_law_1220 (by decide) (fun _ => ?_) (fun c => absurd (by decide) c)
  refine lv_iload hx hb dL_law_1225 (lv_at hl 1 rfl) ?_
  refine lv_if_ne (tgt := 1249) hx hb dL_law_1227 (by decide) (fun _ => ?_) (fun c => absurd c (by decide))
  refine lv_goto (tgt := 2497) hx hb dL_law_1249 (by decide) ?_
  refine W.widen (k := 600) (n := 8000) (by omega) (by omega) ?_
  exact kk H _ hS ls (lv_sub hl [2, 7] rfl)
