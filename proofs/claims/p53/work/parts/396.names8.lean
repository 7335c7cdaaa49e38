theorem dL_thrown_367 : decode cL_thrown 367 = .ok (.invokestatic 275, 3) := by decide +kernel
theorem dL_thrown_370 : decode cL_thrown 370 = .ok (.sipush (-1001), 3) := by decide +kernel
theorem dL_thrown_373 : decode cL_thrown 373 = .ok (.if_icmp .ne 7, 3) := by decide +kernel
theorem dL_thrown_376 : decode cL_thrown 376 = .ok (.iconst 1, 1) := by decide +kernel
theorem dL_thrown_377 : decode cL_thrown 377 = .ok (.goto 4, 3) := by decide +kernel
theorem dL_thrown_380 : decode cL_thrown 380 = .ok (.iconst 0, 1) := by decide +kernel
theorem dL_thrown_381 : decode cL_thrown 381 = .ok (.istore 5, 2) := by decide +kernel
theorem dL_thrown_383 : decode cL_thrown 383 = .ok (.iconst 0, 1) := by decide +kernel
theorem dL_thrown_384 : decode cL_thrown 384 = .ok (.istore 6, 2) := by decide +kernel
theorem dL_thrown_386 : decode cL_thrown 386 = .ok (.iload 6, 2) := by decide +kernel
theorem dL_thrown_388 : decode cL_thrown 388 = .ok (.iload_n 3, 1) := by decide +kernel
theorem dL_thrown_389 : decode cL_thrown 389 = .ok (.if_icmp .ge 397, 3) := by decide +kernel
theorem dL_thrown_392 : decode cL_thrown 392 = .ok (.aload_n 0, 1) := by decide +kernel
theorem dL_thrown_393 : decode cL_thrown 393 = .ok (.iload 6, 2) := by decide +kernel
theorem dL_thrown_395 : decode cL_thrown 395 = .ok (.invokestatic 285, 3) := by decide +kernel
theorem dL_thrown_398 : decode cL_thrown 398 = .ok (.ifCond .le 35, 3) := by decide +kernel
theorem dL_thrown_401 : decode cL_thrown 401 = .ok (.iload 5, 2) := by decide +kernel
theorem dL_thrown_403 : decode cL_thrown 403 = .ok (.ifCond .eq 27, 3) := by decide +kernel
theorem dL_thrown_406 : decode cL_thrown 406 = .ok (.aload_n 0, 1) := by decide +kernel
theorem dL_thrown_407 : decode cL_thrown 407 = .ok (.iload 6, 2) := by decide +kernel
theorem dL_thrown_409 : decode cL_thrown 409 = .ok (.aload_n 0, 1) := by decide +kernel
theorem dL_thrown_410 : decode cL_thrown 410 = .ok (.iload 6, 2) := by decide +kernel
theorem dL_thrown_412 : decode cL_thrown 412 = .ok (.invokestatic 285, 3) := by decide +kernel
theorem dL_thrown_415 : decode cL_thrown 415 = .ok (.iconst 1, 1) := by decide +kernel
theorem dL_thrown_416 : decode cL_thrown 416 = .ok (.isub, 1) := by decide +kernel
theorem dL_thrown_417 : decode cL_thrown 417 = .ok (.invokestatic 249, 3) := by decide +kernel
theorem dL_thrown_420 : decode cL_thrown 420 = .ok (.sipush (-1003), 3) := by decide +kernel
theorem dL_thrown_423 : decode cL_thrown 423 = .ok (.if_icmp .ne 7, 3) := by decide +kernel
theorem dL_thrown_426 : decode cL_thrown 426 = .ok (.iconst 1, 1) := by decide +kernel
theorem dL_thrown_427 : decode cL_thrown 427 = .ok (.goto 4, 3) := by decide +kernel
theorem dL_thrown_430 : decode cL_thrown 430 = .ok (.iconst 0, 1) := by decide +kernel
theorem dL_thrown_431 : decode cL_thrown 431 = .ok (.istore 5, 2) := by decide +kernel
theorem dL_thrown_433 : decode cL_thrown 433 = .ok (.aload_n 0, 1) := by decide +kernel
theorem dL_thrown_434 : decode cL_thrown 434 = .ok (.iload 6, 2) := by decide +kernel
theorem dL_thrown_436 : decode cL_thrown 436 = .ok (.invokestatic 217, 3) := by decide +kernel
theorem dL_thrown_439 : decode cL_thrown 439 = .ok (.ifCond .le 36, 3) := by decide +kernel
theorem dL_thrown_442 : decode cL_thrown 442 = .ok (.iload 5, 2) := by decide +kernel
theorem dL_thrown_444 : decode cL_thrown 444 = .ok (.ifCond .eq 28, 3) := by decide +kernel
theorem dL_thrown_447 : decode cL_thrown 447 = .ok (.aload_n 0, 1) := by decide +kernel
theorem dL_thrown_448 : decode cL_thrown 448 = .ok (.iload 6, 2) := by decide +kernel
theorem dL_thrown_450 : decode cL_thrown 450 = .ok (.bipush 100, 2) := by decide +kernel
theorem dL_thrown_452 : decode cL_thrown 452 = .ok (.aload_n 0, 1) := by decide +kernel
theorem dL_thrown_453 : decode cL_thrown 453 = .ok (.iload 6, 2) := by decide +kernel
theorem dL_thrown_455 : decode cL_thrown 455 = .ok (.invokestatic 217, 3) := by decide +kernel
theorem dL_thrown_458 : decode cL_thrown 458 = .ok (.isub, 1) := by decide +kernel
theorem dL_thrown_459 : decode cL_thrown 459 = .ok (.invokestatic 179, 3) := by decide +kernel
theorem dL_thrown_462 : decode cL_thrown 462 = .ok (.sipush (-1003), 3) := by decide +kernel
theorem dL_thrown_465 : decode cL_thrown 465 = .ok (.if_icmp .ne 7, 3) := by decide +kernel
theorem dL_thrown_468 : decode cL_thrown 468 = .ok (.iconst 1, 1) := by decide +kernel
theorem dL_thrown_469 : decode cL_thrown 469 = .ok (.goto 4, 3) := by decide +kernel
theorem dL_thrown_472 : decode cL_thrown 472 = .ok (.iconst 0, 1) := by decide +kernel
theorem dL_thrown_473 : decode cL_thrown 473 = .ok (.istore 5, 2) := by decide +kernel
theorem dL_thrown_475 : decode cL_thrown 475 = .ok (.aload_n 0, 1) := by decide +kernel
theorem dL_thrown_476 : decode cL_thrown 476 = .ok (.iload 6, 2) := by decide +kernel
theorem dL_thrown_478 : decode cL_thrown 478 = .ok (.invokestatic 231, 3) := by decide +kernel
theorem dL_thrown_481 : decode cL_thrown 481 = .ok (.sipush (-1002), 3) := by decide +kernel
theorem dL_thrown_484 : decode cL_thrown 484 = .ok (.if_icmp .ne 27, 3) := by decide +kernel
theorem dL_thrown_487 : decode cL_thrown 487 = .ok (.iload 5, 2) := by decide +kernel
theorem dL_thrown_489 : decode cL_thrown 489 = .ok (.ifCond .eq 19, 3) := by decide +kernel
theorem dL_thrown_492 : decode cL_thrown 492 = .ok (.aload_n 0, 1) := by decide +kernel
theorem dL_thrown_493 : decode cL_thrown 493 = .ok (.iload 6, 2) := by decide +kernel
theorem dL_thrown_495 : decode cL_thrown 495 = .ok (.invokestatic 275, 3) := by decide +kernel
theorem dL_thrown_498 : decode cL_thrown 498 = .ok (.sipush (-1002), 3) := by decide +kernel
theorem dL_thrown_501 : decode cL_thrown 501 = .ok (.if_icmp .ne 7, 3) := by decide +kernel
theorem dL_thrown_504 : decode cL_thrown 504 = .ok (.iconst 1, 1) := by decide +kernel
theorem dL_thrown_505 : decode cL_thrown 505 = .ok (.goto 4, 3) := by decide +kernel
theorem dL_thrown_508 : decode cL_thrown 508 = .ok (.iconst 0, 1) := by decide +kernel
theorem dL_thrown_509 : decode cL_thrown 509 = .ok (.istore 5, 2) := by decide +kernel
theorem dL_thrown_511 : decode cL_thrown 511 = .ok (.iload 6, 2) := by decide +kernel
theorem dL_thrown_513 : decode cL_thrown 513 = .ok (.iconst 1, 1) := by decide +kernel
theorem dL_thrown_514 : decode cL_thrown 514 = .ok (.iadd, 1) := by decide +kernel
theorem dL_thrown_515 : decode cL_thrown 515 = .ok (.iload_n 3, 1) := by decide +kernel
theorem dL_thrown_516 : decode cL_thrown 516 = .ok (.irem, 1) := by decide +kernel
theorem dL_thrown_517 : decode cL_thrown 517 = .ok (.istore 7, 2) := by decide +kernel
theorem dL_thrown_519 : decode cL_thrown 519 = .ok (.aload_n 0, 1) := by decide +kernel
theorem dL_thrown_520 : decode cL_thrown 520 = .ok (.iload 6, 2) := by decide +kernel
theorem dL_thrown_522 : decode cL_thrown 522 = .ok (.invokestatic 221, 3) := by decide +kernel
theorem dL_thrown_525 : decode cL_thrown 525 = .ok (.aload_n 0, 1) := by decide +kernel
theorem dL_thrown_526 : decode cL_thrown 526 = .ok (.iload 6, 2) := by decide +kernel
theorem dL_thrown_528 : decode cL_thrown 528 = .ok (.invokestatic 285, 3) := by decide +kernel
theorem dL_thrown_531 : decode cL_thrown 531 = .ok (.isub, 1) := by decide +kernel
theorem dL_thrown_532 : decode cL_thrown 532 = .ok (.istore 8, 2) := by decide +kernel
theorem dL_thrown_534 : decode cL_thrown 534 = .ok (.aload_n 0, 1) := by decide +kernel
theorem dL_thrown_535 : decode cL_thrown 535 = .ok (.iload 6, 2) := by decide +kernel
theorem dL_thrown_537 : decode cL_thrown 537 = .ok (.invokestatic 287, 3) := by decide +kernel
theorem dL_thrown_540 : decode cL_thrown 540 = .ok (.iconst 1, 1) := by decide +kernel
theorem dL_thrown_541 : decode cL_thrown 541 = .ok (.if_icmp .ne 33, 3) := by decide +kernel
theorem dL_thrown_544 : decode cL_thrown 544 = .ok (.iload 5, 2) := by decide +kernel
theorem dL_thrown_546 : decode cL_thrown 546 = .ok (.ifCond .eq 22, 3) := by decide +kernel
theorem dL_thrown_549 : decode cL_thrown 549 = .ok (.aload_n 0, 1) := by decide +kernel
theorem dL_thrown_550 : decode cL_thrown 550 = .ok (.iload 6, 2) := by decide +kernel
theorem dL_thrown_552 : decode cL_thrown 552 = .ok (.iload 7, 2) := by decide +kernel
theorem dL_thrown_554 : decode cL_thrown 554 = .ok (.iconst 1, 1) := by decide +kernel
theorem dL_thrown_555 : decode cL_thrown 555 = .ok (.invokestatic 176, 3) := by decide +kernel
theorem dL_thrown_558 : decode cL_thrown 558 = .ok (.sipush (-1003), 3) := by decide +kernel
theorem dL_thrown_561 : decode cL_thrown 561 = .ok (.if_icmp .ne 7, 3) := by decide +kernel
theorem dL_thrown_564 : decode cL_thrown 564 = .ok (.iconst 1, 1) := by decide +kernel
theorem dL_thrown_565 : decode cL_thrown 565 = .ok (.goto 4, 3) := by decide +kernel
theorem dL_thrown_568 : decode cL_thrown 568 = .ok (.iconst 0, 1) := by decide +kernel
theorem dL_thrown_569 : decode cL_thrown 569 = .ok (.istore 5, 2) := by decide +kernel
theorem dL_thrown_571 : decode cL_thrown 571 = .ok (.goto 40, 3) := by decide +kernel
theorem dL_thrown_574 : decode cL_thrown 574 = .ok (.iload 8, 2) := by decide +kernel
theorem dL_thrown_576 : decode cL_thrown 576 = .ok (.bipush 99, 2) := by decide +kernel
theorem dL_thrown_578 : decode cL_thrown 578 = .ok (.if_icmp .ge 33, 3) := by decide +kernel
theorem dL_thrown_581 : decode cL_thrown 581 = .ok (.iload 5, 2) := by decide +kernel
theorem dL_thrown_583 : decode cL_thrown 583 = .ok (.ifCond .eq 25, 3) := by decide +kernel
theorem dL_thrown_586 : decode cL_thrown 586 = .ok (.aload_n 0, 1) := by decide +kernel
theorem dL_thrown_587 : decode cL_thrown 587 = .ok (.iload 6, 2) := by decide +kernel
theorem dL_thrown_589 : decode cL_thrown 589 = .ok (.iload 7, 2) := by decide +kernel
theorem dL_thrown_591 : decode cL_thrown 591 = .ok (.iload 8, 2) := by decide +kernel
theorem dL_thrown_593 : decode cL_thrown 593 = .ok (.iconst 1, 1) := by decide +kernel
theorem dL_thrown_594 : decode cL_thrown 594 = .ok (.iadd, 1) := by decide +kernel
theorem dL_thrown_595 : decode cL_thrown 595 = .ok (.invokestatic 176, 3) := by decide +kernel
theorem dL_thrown_598 : decode cL_thrown 598 = .ok (.sipush (-1004), 3) := by decide +kernel
theorem dL_thrown_601 : decode cL_thrown 601 = .ok (.if_icmp .ne 7, 3) := by decide +kernel
theorem dL_thrown_604 : decode cL_thrown 604 = .ok (.iconst 1, 1) := by decide +kernel
theorem dL_thrown_605 : decode cL_thrown 605 = .ok (.goto 4, 3) := by decide +kernel
theorem dL_thrown_608 : decode cL_thrown 608 = .ok (.iconst 0, 1) := by decide +kernel
theorem dL_thrown_609 : decode cL_thrown 609 = .ok (.istore 5, 2) := by decide +kernel
theorem dL_thrown_611 : decode cL_thrown 611 = .ok (.aload_n 0, 1) := by decide +kernel
theorem dL_thrown_612 : decode cL_thrown 612 = .ok (.iload 6, 2) := by decide +kernel
theorem dL_thrown_614 : decode cL_thrown 614 = .ok (.iload 7, 2) := by decide +kernel
theorem dL_thrown_616 : decode cL_thrown 616 = .ok (.invokestatic 290, 3) := by decide +kernel
theorem dL_thrown_619 : decode cL_thrown 619 = .ok (.bipush 99, 2) := by decide +kernel
theorem dL_thrown_621 : decode cL_thrown 621 = .ok (.if_icmp .ge 39, 3) := by decide +kernel
theorem dL_thrown_624 : decode cL_thrown 624 = .ok (.iload 5, 2) := by decide +kernel
theorem dL_thrown_626 : decode cL_thrown 626 = .ok (.ifCond .eq 31, 3) := by decide +kernel
theorem dL_thrown_629 : decode cL_thrown 629 = .ok (.aload_n 0, 1) := by decide +kernel
theorem dL_thrown_630 : decode cL_thrown 630 = .ok (.iload 6, 2) := by decide +kernel
theorem dL_thrown_632 : decode cL_thrown 632 = .ok (.iload 7, 2) := by decide +kernel
theorem dL_thrown_634 : decode cL_thrown 634 = .ok (.aload_n 0, 1) := by decide +kernel
theorem dL_thrown_635 : decode cL_thrown 635 = .ok (.iload 6, 2) := by decide +kernel
theorem dL_thrown_637 : decode cL_thrown 637 = .ok (.iload 7, 2) := by decide +kernel
theorem dL_thrown_639 : decode cL_thrown 639 = .ok (.invokestatic 290, 3) := by decide +kernel
theorem dL_thrown_642 : decode cL_thrown 642 = .ok (.iconst 1, 1) := by decide +kernel
theorem dL_thrown_643 : decode cL_thrown 643 = .ok (.iadd, 1) := by decide +kernel
theorem dL_thrown_644 : decode cL_thrown 644 = .ok (.invokestatic 240, 3) := by decide +kernel
theorem dL_thrown_647 : decode cL_thrown 647 = .ok (.sipush (-1003), 3) := by decide +kernel
theorem dL_thrown_650 : decode cL_thrown 650 = .ok (.if_icmp .ne 7, 3) := by decide +kernel
theorem dL_thrown_653 : decode cL_thrown 653 = .ok (.iconst 1, 1) := by decide +kernel
theorem dL_thrown_654 : decode cL_thrown 654 = .ok (.goto 4, 3) := by decide +kernel
theorem dL_thrown_657 : decode cL_thrown 657 = .ok (.iconst 0, 1) := by decide +kernel
theorem dL_thrown_658 : decode cL_thrown 658 = .ok (.istore 5, 2) := by decide +kernel
theorem dL_thrown_660 : decode cL_thrown 660 = .ok (.aload_n 0, 1) := by decide +kernel
theorem dL_thrown_661 : decode cL_thrown 661 = .ok (.iload 6, 2) := by decide +kernel
theorem dL_thrown_663 : decode cL_thrown 663 = .ok (.iload 7, 2) := by decide +kernel
theorem dL_thrown_665 : decode cL_thrown 665 = .ok (.invokestatic 290, 3) := by decide +kernel
theorem dL_thrown_668 : decode cL_thrown 668 = .ok (.aload_n 0, 1) := by decide +kernel
theorem dL_thrown_669 : decode cL_thrown 669 = .ok (.iload 6, 2) := by decide +kernel
theorem dL_thrown_671 : decode cL_thrown 671 = .ok (.invokestatic 292, 3) := by decide +kernel
theorem dL_thrown_674 : decode cL_thrown 674 = .ok (.if_icmp .le 37, 3) := by decide +kernel
theorem dL_thrown_677 : decode cL_thrown 677 = .ok (.iload 5, 2) := by decide +kernel
theorem dL_thrown_679 : decode cL_thrown 679 = .ok (.ifCond .eq 29, 3) := by decide +kernel
theorem dL_thrown_682 : decode cL_thrown 682 = .ok (.aload_n 0, 1) := by decide +kernel
theorem dL_thrown_683 : decode cL_thrown 683 = .ok (.iload 6, 2) := by decide +kernel
theorem dL_thrown_685 : decode cL_thrown 685 = .ok (.iload 7, 2) := by decide +kernel
theorem dL_thrown_687 : decode cL_thrown 687 = .ok (.aload_n 0, 1) := by decide +kernel
theorem dL_thrown_688 : decode cL_thrown 688 = .ok (.iload 6, 2) := by decide +kernel
theorem dL_thrown_690 : decode cL_thrown 690 = .ok (.invokestatic 292, 3) := by decide +kernel
theorem dL_thrown_693 : decode cL_thrown 693 = .ok (.iconst 1, 1) := by decide +kernel
theorem dL_thrown_694 : decode cL_thrown 694 = .ok (.iadd, 1) := by decide +kernel
theorem dL_thrown_695 : decode cL_thrown 695 = .ok (.invokestatic 240, 3) := by decide +kernel
theorem dL_thrown_698 : decode cL_thrown 698 = .ok (.sipush (-1004), 3) := by decide +kernel
theorem dL_thrown_701 : decode cL_thrown 701 = .ok (.if_icmp .ne 7, 3) := by decide +kernel
theorem dL_thrown_704 : decode cL_thrown 704 = .ok (.iconst 1, 1) := by decide +kernel
theorem dL_thrown_705 : decode cL_thrown 705 = .ok (.goto 4, 3) := by decide +kernel
theorem dL_thrown_708 : decode cL_thrown 708 = .ok (.iconst 0, 1) := by decide +kernel
theorem dL_thrown_709 : decode cL_thrown 709 = .ok (.istore 5, 2) := by decide +kernel
theorem dL_thrown_711 : decode cL_thrown 711 = .ok (.iload 6, 2) := by decide +kernel
theorem dL_thrown_713 : decode cL_thrown 713 = .ok (.iconst 2, 1) := by decide +kernel
theorem dL_thrown_714 : decode cL_thrown 714 = .ok (.iadd, 1) := by decide +kernel
theorem dL_thrown_715 : decode cL_thrown 715 = .ok (.iload_n 3, 1) := by decide +kernel
theorem dL_thrown_716 : decode cL_thrown 716 = .ok (.irem, 1) := by decide +kernel
theorem dL_thrown_717 : decode cL_thrown 717 = .ok (.istore 9, 2) := by decide +kernel
theorem dL_thrown_719 : decode cL_thrown 719 = .ok (.aload_n 0, 1) := by decide +kernel
theorem dL_thrown_720 : decode cL_thrown 720 = .ok (.iload 6, 2) := by decide +kernel
theorem dL_thrown_722 : decode cL_thrown 722 = .ok (.iload 7, 2) := by decide +kernel
theorem dL_thrown_724 : decode cL_thrown 724 = .ok (.invokestatic 290, 3) := by decide +kernel
theorem dL_thrown_727 : decode cL_thrown 727 = .ok (.ifCond .eq 25, 3) := by decide +kernel
theorem dL_thrown_730 : decode cL_thrown 730 = .ok (.aload_n 0, 1) := by decide +kernel
theorem dL_thrown_731 : decode cL_thrown 731 = .ok (.iload 7, 2) := by decide +kernel
theorem dL_thrown_733 : decode cL_thrown 733 = .ok (.iload 9, 2) := by decide +kernel
theorem dL_thrown_735 : decode cL_thrown 735 = .ok (.invokestatic 290, 3) := by decide +kernel
theorem dL_thrown_738 : decode cL_thrown 738 = .ok (.ifCond .eq 14, 3) := by decide +kernel
theorem dL_thrown_741 : decode cL_thrown 741 = .ok (.aload_n 0, 1) := by decide +kernel
theorem dL_thrown_742 : decode cL_thrown 742 = .ok (.iload 9, 2) := by decide +kernel
theorem dL_thrown_744 : decode cL_thrown 744 = .ok (.iload 6, 2) := by decide +kernel
theorem dL_thrown_746 : decode cL_thrown 746 = .ok (.invokestatic 290, 3) := by decide +kernel
theorem dL_thrown_749 : decode cL_thrown 749 = .ok (.ifCond .ne 31, 3) := by decide +kernel
theorem dL_thrown_752 : decode cL_thrown 752 = .ok (.iload 5, 2) := by decide +kernel
theorem dL_thrown_754 : decode cL_thrown 754 = .ok (.ifCond .eq 23, 3) := by decide +kernel
theorem dL_thrown_757 : decode cL_thrown 757 = .ok (.aload_n 0, 1) := by decide +kernel
theorem dL_thrown_758 : decode cL_thrown 758 = .ok (.iload 6, 2) := by decide +kernel
theorem dL_thrown_760 : decode cL_thrown 760 = .ok (.iload 7, 2) := by decide +kernel
theorem dL_thrown_762 : decode cL_thrown 762 = .ok (.iload 9, 2) := by decide +kernel
theorem dL_thrown_764 : decode cL_thrown 764 = .ok (.invokestatic 244, 3) := by decide +kernel
theorem dL_thrown_767 : decode cL_thrown 767 = .ok (.sipush (-1003), 3) := by decide +kernel
theorem dL_thrown_770 : decode cL_thrown 770 = .ok (.if_icmp .ne 7, 3) := by decide +kernel
theorem dL_thrown_773 : decode cL_thrown 773 = .ok (.iconst 1, 1) := by decide +kernel
theorem dL_thrown_774 : decode cL_thrown 774 = .ok (.goto 4, 3) := by decide +kernel
theorem dL_thrown_777 : decode cL_thrown 777 = .ok (.iconst 0, 1) := by decide +kernel
theorem dL_thrown_778 : decode cL_thrown 778 = .ok (.istore 5, 2) := by decide +kernel
theorem dL_thrown_780 : decode cL_thrown 780 = .ok (.iinc 6 1, 3) := by decide +kernel
theorem dL_thrown_783 : decode cL_thrown 783 = .ok (.goto (-397), 3) := by decide +kernel
theorem dL_thrown_786 : decode cL_thrown 786 = .ok (.iload 5, 2) := by decide +kernel
theorem dL_thrown_788 : decode cL_thrown 788 = .ok (.ifCond .eq 318, 3) := by decide +kernel
theorem dL_thrown_791 : decode cL_thrown 791 = .ok (.aload_n 0, 1) := by decide +kernel
theorem dL_thrown_792 : decode cL_thrown 792 = .ok (.iload_n 3, 1) := by decide +kernel
theorem dL_thrown_793 : decode cL_thrown 793 = .ok (.invokestatic 292, 3) := by decide +kernel
theorem dL_thrown_796 : decode cL_thrown 796 = .ok (.sipush (-1001), 3) := by decide +kernel
theorem dL_thrown_799 : decode cL_thrown 799 = .ok (.if_icmp .ne 307, 3) := by decide +kernel
theorem dL_thrown_802 : decode cL_thrown 802 = .ok (.aload_n 0, 1) := by decide +kernel
theorem dL_thrown_803 : decode cL_thrown 803 = .ok (.iconst (-1), 1) := by decide +kernel
theorem dL_thrown_804 : decode cL_thrown 804 = .ok (.invokestatic 217, 3) := by decide +kernel
theorem dL_thrown_807 : decode cL_thrown 807 = .ok (.sipush (-1001), 3) := by decide +kernel
theorem dL_thrown_810 : decode cL_thrown 810 = .ok (.if_icmp .ne 296, 3) := by decide +kernel
theorem dL_thrown_813 : decode cL_thrown 813 = .ok (.aload_n 0, 1) := by decide +kernel
theorem dL_thrown_814 : decode cL_thrown 814 = .ok (.iload_n 3, 1) := by decide +kernel
theorem dL_thrown_815 : decode cL_thrown 815 = .ok (.invokestatic 219, 3) := by decide +kernel
theorem dL_thrown_818 : decode cL_thrown 818 = .ok (.sipush (-1001), 3) := by decide +kernel
theorem dL_thrown_821 : decode cL_thrown 821 = .ok (.if_icmp .ne 285, 3) := by decide +kernel
theorem dL_thrown_824 : decode cL_thrown 824 = .ok (.aload_n 0, 1) := by decide +kernel
theorem dL_thrown_825 : decode cL_thrown 825 = .ok (.iload_n 3, 1) := by decide +kernel
theorem dL_thrown_826 : decode cL_thrown 826 = .ok (.invokestatic 221, 3) := by decide +kernel
theorem dL_thrown_829 : decode cL_thrown 829 = .ok (.sipush (-1001), 3) := by decide +kernel
theorem dL_thrown_832 : decode cL_thrown 832 = .ok (.if_icmp .ne 274, 3) := by decide +kernel
theorem dL_thrown_835 : decode cL_thrown 835 = .ok (.aload_n 0, 1) := by decide +kernel
theorem dL_thrown_836 : decode cL_thrown 836 = .ok (.iload_n 3, 1) := by decide +kernel
theorem dL_thrown_837 : decode cL_thrown 837 = .ok (.invokestatic 287, 3) := by decide +kernel
theorem dL_thrown_840 : decode cL_thrown 840 = .ok (.sipush (-1001), 3) := by decide +kernel
theorem dL_thrown_843 : decode cL_thrown 843 = .ok (.if_icmp .ne 263, 3) := by decide +kernel
theorem dL_thrown_846 : decode cL_thrown 846 = .ok (.aload_n 0, 1) := by decide +kernel
theorem dL_thrown_847 : decode cL_thrown 847 = .ok (.iload_n 3, 1) := by decide +kernel
theorem dL_thrown_848 : decode cL_thrown 848 = .ok (.iload_n 3, 1) := by decide +kernel
theorem dL_thrown_849 : decode cL_thrown 849 = .ok (.invokestatic 290, 3) := by decide +kernel
theorem dL_thrown_852 : decode cL_thrown 852 = .ok (.sipush (-1001), 3) := by decide +kernel
theorem dL_thrown_855 : decode cL_thrown 855 = .ok (.if_icmp .ne 251, 3) := by decide +kernel
theorem dL_thrown_858 : decode cL_thrown 858 = .ok (.aload_n 0, 1) := by decide +kernel
theorem dL_thrown_859 : decode cL_thrown 859 = .ok (.iconst 0, 1) := by decide +kernel
theorem dL_thrown_860 : decode cL_thrown 860 = .ok (.iload_n 3, 1) := by decide +kernel
theorem dL_thrown_861 : decode cL_thrown 861 = .ok (.invokestatic 290, 3) := by decide +kernel
theorem dL_thrown_864 : decode cL_thrown 864 = .ok (.sipush (-1001), 3) := by decide +kernel
theorem dL_thrown_867 : decode cL_thrown 867 = .ok (.if_icmp .ne 239, 3) := by decide +kernel
theorem dL_thrown_870 : decode cL_thrown 870 = .ok (.aload_n 0, 1) := by decide +kernel
theorem dL_thrown_871 : decode cL_thrown 871 = .ok (.iconst 0, 1) := by decide +kernel
theorem dL_thrown_872 : decode cL_thrown 872 = .ok (.iconst 0, 1) := by decide +kernel
theorem dL_thrown_873 : decode cL_thrown 873 = .ok (.invokestatic 290, 3) := by decide +kernel
theorem dL_thrown_876 : decode cL_thrown 876 = .ok (.sipush (-1002), 3) := by decide +kernel
theorem dL_thrown_879 : decode cL_thrown 879 = .ok (.if_icmp .ne 227, 3) := by decide +kernel
theorem dL_thrown_882 : decode cL_thrown 882 = .ok (.aload_n 0, 1) := by decide +kernel
theorem dL_thrown_883 : decode cL_thrown 883 = .ok (.iload_n 3, 1) := by decide +kernel
theorem dL_thrown_884 : decode cL_thrown 884 = .ok (.invokestatic 285, 3) := by decide +kernel
theorem dL_thrown_887 : decode cL_thrown 887 = .ok (.sipush (-1001), 3) := by decide +kernel
theorem dL_thrown_890 : decode cL_thrown 890 = .ok (.if_icmp .ne 216, 3) := by decide +kernel
theorem dL_thrown_893 : decode cL_thrown 893 = .ok (.aload_n 0, 1) := by decide +kernel
theorem dL_thrown_894 : decode cL_thrown 894 = .ok (.iconst (-1), 1) := by decide +kernel
theorem dL_thrown_895 : decode cL_thrown 895 = .ok (.invokestatic 294, 3) := by decide +kernel
theorem dL_thrown_898 : decode cL_thrown 898 = .ok (.sipush (-1001), 3) := by decide +kernel
theorem dL_thrown_901 : decode cL_thrown 901 = .ok (.if_icmp .ne 205, 3) := by decide +kernel
theorem dL_thrown_904 : decode cL_thrown 904 = .ok (.aload_n 0, 1) := by decide +kernel
theorem dL_thrown_905 : decode cL_thrown 905 = .ok (.iload_n 3, 1) := by decide +kernel
theorem dL_thrown_906 : decode cL_thrown 906 = .ok (.invokestatic 296, 3) := by decide +kernel
theorem dL_thrown_909 : decode cL_thrown 909 = .ok (.sipush (-1001), 3) := by decide +kernel
theorem dL_thrown_912 : decode cL_thrown 912 = .ok (.if_icmp .ne 194, 3) := by decide +kernel
theorem dL_thrown_915 : decode cL_thrown 915 = .ok (.aload_n 0, 1) := by decide +kernel
theorem dL_thrown_916 : decode cL_thrown 916 = .ok (.iload_n 3, 1) := by decide +kernel
theorem dL_thrown_917 : decode cL_thrown 917 = .ok (.invokestatic 223, 3) := by decide +kernel
theorem dL_thrown_920 : decode cL_thrown 920 = .ok (.sipush (-1001), 3) := by decide +kernel
theorem dL_thrown_923 : decode cL_thrown 923 = .ok (.if_icmp .ne 183, 3) := by decide +kernel
theorem dL_thrown_926 : decode cL_thrown 926 = .ok (.aload_n 0, 1) := by decide +kernel
theorem dL_thrown_927 : decode cL_thrown 927 = .ok (.iload_n 3, 1) := by decide +kernel
theorem dL_thrown_928 : decode cL_thrown 928 = .ok (.invokestatic 226, 3) := by decide +kernel
theorem dL_thrown_931 : decode cL_thrown 931 = .ok (.sipush (-1001), 3) := by decide +kernel
theorem dL_thrown_934 : decode cL_thrown 934 = .ok (.if_icmp .ne 172, 3) := by decide +kernel
theorem dL_thrown_937 : decode cL_thrown 937 = .ok (.aload_n 0, 1) := by decide +kernel
theorem dL_thrown_938 : decode cL_thrown 938 = .ok (.iconst (-1), 1) := by decide +kernel
theorem dL_thrown_939 : decode cL_thrown 939 = .ok (.invokestatic 298, 3) := by decide +kernel
theorem dL_thrown_942 : decode cL_thrown 942 = .ok (.sipush (-1001), 3) := by decide +kernel
theorem dL_thrown_945 : decode cL_thrown 945 = .ok (.if_icmp .ne 161, 3) := by decide +kernel
theorem dL_thrown_948 : decode cL_thrown 948 = .ok (.aload_n 0, 1) := by decide +kernel
theorem dL_thrown_949 : decode cL_thrown 949 = .ok (.iload_n 3, 1) := by decide +kernel
theorem dL_thrown_950 : decode cL_thrown 950 = .ok (.iload_n 3, 1) := by decide +kernel
theorem dL_thrown_951 : decode cL_thrown 951 = .ok (.invokestatic 301, 3) := by decide +kernel
theorem dL_thrown_954 : decode cL_thrown 954 = .ok (.sipush (-1001), 3) := by decide +kernel
theorem dL_thrown_957 : decode cL_thrown 957 = .ok (.if_icmp .ne 149, 3) := by decide +kernel
theorem dL_thrown_960 : decode cL_thrown 960 = .ok (.aload_n 0, 1) := by decide +kernel
theorem dL_thrown_961 : decode cL_thrown 961 = .ok (.iconst 1, 1) := by decide +kernel
theorem dL_thrown_962 : decode cL_thrown 962 = .ok (.iconst 1, 1) := by decide +kernel
theorem dL_thrown_963 : decode cL_thrown 963 = .ok (.invokestatic 301, 3) := by decide +kernel
theorem dL_thrown_966 : decode cL_thrown 966 = .ok (.sipush (-1002), 3) := by decide +kernel
theorem dL_thrown_969 : decode cL_thrown 969 = .ok (.if_icmp .ne 137, 3) := by decide +kernel
theorem dL_thrown_972 : decode cL_thrown 972 = .ok (.aload_n 0, 1) := by decide +kernel
theorem dL_thrown_973 : decode cL_thrown 973 = .ok (.iload_n 3, 1) := by decide +kernel
theorem dL_thrown_974 : decode cL_thrown 974 = .ok (.invokestatic 231, 3) := by decide +kernel
theorem dL_thrown_977 : decode cL_thrown 977 = .ok (.sipush (-1001), 3) := by decide +kernel
theorem dL_thrown_980 : decode cL_thrown 980 = .ok (.if_icmp .ne 126, 3) := by decide +kernel
theorem dL_thrown_983 : decode cL_thrown 983 = .ok (.aload_n 0, 1) := by decide +kernel
theorem dL_thrown_984 : decode cL_thrown 984 = .ok (.iload_n 3, 1) := by decide +kernel
theorem dL_thrown_985 : decode cL_thrown 985 = .ok (.iload_n 3, 1) := by decide +kernel
theorem dL_thrown_986 : decode cL_thrown 986 = .ok (.invokestatic 303, 3) := by decide +kernel
theorem dL_thrown_989 : decode cL_thrown 989 = .ok (.sipush (-1001), 3) := by decide +kernel
theorem dL_thrown_992 : decode cL_thrown 992 = .ok (.if_icmp .ne 114, 3) := by decide +kernel
theorem dL_thrown_995 : decode cL_thrown 995 = .ok (.aload_n 0, 1) := by decide +kernel
theorem dL_thrown_996 : decode cL_thrown 996 = .ok (.iconst 0, 1) := by decide +kernel
theorem dL_thrown_997 : decode cL_thrown 997 = .ok (.iload_n 3, 1) := by decide +kernel
theorem dL_thrown_998 : decode cL_thrown 998 = .ok (.invokestatic 303, 3) := by decide +kernel
theorem dL_thrown_1001 : decode cL_thrown 1001 = .ok (.sipush (-1001), 3) := by decide +kernel
theorem dL_thrown_1004 : decode cL_thrown 1004 = .ok (.if_icmp .ne 102, 3) := by decide +kernel
theorem dL_thrown_1007 : decode cL_thrown 1007 = .ok (.aload_n 0, 1) := by decide +kernel
theorem dL_thrown_1008 : decode cL_thrown 1008 = .ok (.iconst 0, 1) := by decide +kernel
theorem dL_thrown_1009 : decode cL_thrown 1009 = .ok (.iconst 0, 1) := by decide +kernel
theorem dL_thrown_1010 : decode cL_thrown 1010 = .ok (.invokestatic 303, 3) := by decide +kernel
theorem dL_thrown_1013 : decode cL_thrown 1013 = .ok (.sipush (-1002), 3) := by decide +kernel
theorem dL_thrown_1016 : decode cL_thrown 1016 = .ok (.if_icmp .ne 90, 3) := by decide +kernel
theorem dL_thrown_1019 : decode cL_thrown 1019 = .ok (.aload_n 0, 1) := by decide +kernel
theorem dL_thrown_1020 : decode cL_thrown 1020 = .ok (.iload_n 3, 1) := by decide +kernel
theorem dL_thrown_1021 : decode cL_thrown 1021 = .ok (.invokestatic 228, 3) := by decide +kernel
theorem dL_thrown_1024 : decode cL_thrown 1024 = .ok (.sipush (-1001), 3) := by decide +kernel
theorem dL_thrown_1027 : decode cL_thrown 1027 = .ok (.if_icmp .ne 79, 3) := by decide +kernel
theorem dL_thrown_1030 : decode cL_thrown 1030 = .ok (.aload_n 0, 1) := by decide +kernel
theorem dL_thrown_1031 : decode cL_thrown 1031 = .ok (.iconst (-1), 1) := by decide +kernel
theorem dL_thrown_1032 : decode cL_thrown 1032 = .ok (.invokestatic 228, 3) := by decide +kernel
theorem dL_thrown_1035 : decode cL_thrown 1035 = .ok (.sipush (-1001), 3) := by decide +kernel
theorem dL_thrown_1038 : decode cL_thrown 1038 = .ok (.if_icmp .ne 68, 3) := by decide +kernel
theorem dL_thrown_1041 : decode cL_thrown 1041 = .ok (.aload_n 0, 1) := by decide +kernel
theorem dL_thrown_1042 : decode cL_thrown 1042 = .ok (.invokevirtual 306, 3) := by decide +kernel
theorem dL_thrown_1045 : decode cL_thrown 1045 = .ok (.ifCond .gt 23, 3) := by decide +kernel
theorem dL_thrown_1048 : decode cL_thrown 1048 = .ok (.aload_n 0, 1) := by decide +kernel
theorem dL_thrown_1049 : decode cL_thrown 1049 = .ok (.invokestatic 236, 3) := by decide +kernel
theorem dL_thrown_1052 : decode cL_thrown 1052 = .ok (.sipush (-1001), 3) := by decide +kernel
theorem dL_thrown_1055 : decode cL_thrown 1055 = .ok (.if_icmp .ne 51, 3) := by decide +kernel
theorem dL_thrown_1058 : decode cL_thrown 1058 = .ok (.aload_n 0, 1) := by decide +kernel
theorem dL_thrown_1059 : decode cL_thrown 1059 = .ok (.invokestatic 238, 3) := by decide +kernel
theorem dL_thrown_1062 : decode cL_thrown 1062 = .ok (.sipush (-1001), 3) := by decide +kernel
theorem dL_thrown_1065 : decode cL_thrown 1065 = .ok (.if_icmp .ne 41, 3) := by decide +kernel
theorem dL_thrown_1068 : decode cL_thrown 1068 = .ok (.aload_n 0, 1) := by decide +kernel
theorem dL_thrown_1069 : decode cL_thrown 1069 = .ok (.iload_n 3, 1) := by decide +kernel
theorem dL_thrown_1070 : decode cL_thrown 1070 = .ok (.invokestatic 234, 3) := by decide +kernel
theorem dL_thrown_1073 : decode cL_thrown 1073 = .ok (.sipush (-1001), 3) := by decide +kernel
theorem dL_thrown_1076 : decode cL_thrown 1076 = .ok (.if_icmp .ne 30, 3) := by decide +kernel
theorem dL_thrown_1079 : decode cL_thrown 1079 = .ok (.aload_n 0, 1) := by decide +kernel
theorem dL_thrown_1080 : decode cL_thrown 1080 = .ok (.iconst (-1), 1) := by decide +kernel
theorem dL_thrown_1081 : decode cL_thrown 1081 = .ok (.invokestatic 162, 3) := by decide +kernel
theorem dL_thrown_1084 : decode cL_thrown 1084 = .ok (.sipush (-1001), 3) := by decide +kernel
theorem dL_thrown_1087 : decode cL_thrown 1087 = .ok (.if_icmp .ne 19, 3) := by decide +kernel
theorem dL_thrown_1090 : decode cL_thrown 1090 = .ok (.aload_n 0, 1) := by decide +kernel
theorem dL_thrown_1091 : decode cL_thrown 1091 = .ok (.bipush 120, 2) := by decide +kernel
theorem dL_thrown_1093 : decode cL_thrown 1093 = .ok (.invokestatic 162, 3) := by decide +kernel
theorem dL_thrown_1096 : decode cL_thrown 1096 = .ok (.sipush (-1001), 3) := by decide +kernel
theorem dL_thrown_1099 : decode cL_thrown 1099 = .ok (.if_icmp .ne 7, 3) := by decide +kernel
theorem dL_thrown_1102 : decode cL_thrown 1102 = .ok (.iconst 1, 1) := by decide +kernel
theorem dL_thrown_1103 : decode cL_thrown 1103 = .ok (.goto 4, 3) := by decide +kernel
theorem dL_thrown_1106 : decode cL_thrown 1106 = .ok (.iconst 0, 1) := by decide +kernel
theorem dL_thrown_1107 : decode cL_thrown 1107 = .ok (.istore 5, 2) := by decide +kernel
theorem dL_thrown_1109 : decode cL_thrown 1109 = .ok (.iload 5, 2) := by decide +kernel
theorem dL_thrown_1111 : decode cL_thrown 1111 = .ok (.ifCond .eq 93, 3) := by decide +kernel
theorem dL_thrown_1114 : decode cL_thrown 1114 = .ok (.aload_n 0, 1) := by decide +kernel
theorem dL_thrown_1115 : decode cL_thrown 1115 = .ok (.ldc_w 309, 3) := by decide +kernel
theorem dL_thrown_1118 : decode cL_thrown 1118 = .ok (.invokestatic 271, 3) := by decide +kernel
theorem dL_thrown_1121 : decode cL_thrown 1121 = .ok (.sipush (-1001), 3) := by decide +kernel
theorem dL_thrown_1124 : decode cL_thrown 1124 = .ok (.if_icmp .ne 80, 3) := by decide +kernel
theorem dL_thrown_1127 : decode cL_thrown 1127 = .ok (.aload_n 0, 1) := by decide +kernel
theorem dL_thrown_1128 : decode cL_thrown 1128 = .ok (.invokestatic 311, 3) := by decide +kernel
theorem dL_thrown_1131 : decode cL_thrown 1131 = .ok (.ifCond .ne 73, 3) := by decide +kernel
theorem dL_thrown_1134 : decode cL_thrown 1134 = .ok (.aload_n 0, 1) := by decide +kernel
theorem dL_thrown_1135 : decode cL_thrown 1135 = .ok (.ldc_w 313, 3) := by decide +kernel
theorem dL_thrown_1138 : decode cL_thrown 1138 = .ok (.invokestatic 271, 3) := by decide +kernel
theorem dL_thrown_1141 : decode cL_thrown 1141 = .ok (.sipush (-1002), 3) := by decide +kernel
theorem dL_thrown_1144 : decode cL_thrown 1144 = .ok (.if_icmp .ne 60, 3) := by decide +kernel
theorem dL_thrown_1147 : decode cL_thrown 1147 = .ok (.aload_n 0, 1) := by decide +kernel
theorem dL_thrown_1148 : decode cL_thrown 1148 = .ok (.invokestatic 315, 3) := by decide +kernel
theorem dL_thrown_1151 : decode cL_thrown 1151 = .ok (.iconst 2, 1) := by decide +kernel
theorem dL_thrown_1152 : decode cL_thrown 1152 = .ok (.if_icmp .ne 52, 3) := by decide +kernel
theorem dL_thrown_1155 : decode cL_thrown 1155 = .ok (.aload_n 0, 1) := by decide +kernel
theorem dL_thrown_1156 : decode cL_thrown 1156 = .ok (.ldc_w 317, 3) := by decide +kernel
theorem dL_thrown_1159 : decode cL_thrown 1159 = .ok (.invokestatic 271, 3) := by decide +kernel
theorem dL_thrown_1162 : decode cL_thrown 1162 = .ok (.sipush (-1002), 3) := by decide +kernel
theorem dL_thrown_1165 : decode cL_thrown 1165 = .ok (.if_icmp .ne 39, 3) := by decide +kernel
theorem dL_thrown_1168 : decode cL_thrown 1168 = .ok (.aload_n 0, 1) := by decide +kernel
theorem dL_thrown_1169 : decode cL_thrown 1169 = .ok (.invokestatic 315, 3) := by decide +kernel
theorem dL_thrown_1172 : decode cL_thrown 1172 = .ok (.ifCond .ne 32, 3) := by decide +kernel
theorem dL_thrown_1175 : decode cL_thrown 1175 = .ok (.aload_n 0, 1) := by decide +kernel
theorem dL_thrown_1176 : decode cL_thrown 1176 = .ok (.invokestatic 311, 3) := by decide +kernel
theorem dL_thrown_1179 : decode cL_thrown 1179 = .ok (.ifCond .ne 25, 3) := by decide +kernel
theorem dL_thrown_1182 : decode cL_thrown 1182 = .ok (.aload_n 0, 1) := by decide +kernel
theorem dL_thrown_1183 : decode cL_thrown 1183 = .ok (.invokevirtual 282, 3) := by decide +kernel
theorem dL_thrown_1186 : decode cL_thrown 1186 = .ok (.iload 4, 2) := by decide +kernel
theorem dL_thrown_1188 : decode cL_thrown 1188 = .ok (.if_icmp .ne 16, 3) := by decide +kernel
theorem dL_thrown_1191 : decode cL_thrown 1191 = .ok (.aload_n 0, 1) := by decide +kernel
theorem dL_thrown_1192 : decode cL_thrown 1192 = .ok (.invokestatic 278, 3) := by decide +kernel
theorem dL_thrown_1195 : decode cL_thrown 1195 = .ok (.lload_n 1, 1) := by decide +kernel
theorem dL_thrown_1196 : decode cL_thrown 1196 = .ok (.lcmp, 1) := by decide +kernel
theorem dL_thrown_1197 : decode cL_thrown 1197 = .ok (.ifCond .ne 7, 3) := by decide +kernel
theorem dL_thrown_1200 : decode cL_thrown 1200 = .ok (.iconst 1, 1) := by decide +kernel
theorem dL_thrown_1201 : decode cL_thrown 1201 = .ok (.goto 4, 3) := by decide +kernel
theorem dL_thrown_1204 : decode cL_thrown 1204 = .ok (.iconst 0, 1) := by decide +kernel
theorem dL_thrown_1205 : decode cL_thrown 1205 = .ok (.ireturn, 1) := by decide +kernel
theorem dL_law_0 : decode cL_law 0 = .ok (.new 8, 3) := by decide +kernel
theorem dL_law_3 : decode cL_law 3 = .ok (.dup, 1) := by decide +kernel
theorem dL_law_4 : decode cL_law 4 = .ok (.invokespecial 319, 3) := by decide +kernel
theorem dL_law_7 : decode cL_law 7 = .ok (.astore_n 1, 1) := by decide +kernel
theorem dL_law_8 : decode cL_law 8 = .ok (.aload_n 1, 1) := by decide +kernel
theorem dL_law_9 : decode cL_law 9 = .ok (.invokestatic 320, 3) := by decide +kernel
theorem dL_law_12 : decode cL_law 12 = .ok (.sipush (-1001), 3) := by decide +kernel
theorem dL_law_15 : decode cL_law 15 = .ok (.if_icmp .ne 31, 3) := by decide +kernel
theorem dL_law_18 : decode cL_law 18 = .ok (.aload_n 1, 1) := by decide +kernel
theorem dL_law_19 : decode cL_law 19 = .ok (.invokestatic 322, 3) := by decide +kernel
theorem dL_law_22 : decode cL_law 22 = .ok (.sipush (-1001), 3) := by decide +kernel
theorem dL_law_25 : decode cL_law 25 = .ok (.if_icmp .ne 21, 3) := by decide +kernel
theorem dL_law_28 : decode cL_law 28 = .ok (.aload_n 1, 1) := by decide +kernel
theorem dL_law_29 : decode cL_law 29 = .ok (.invokevirtual 324, 3) := by decide +kernel
theorem dL_law_32 : decode cL_law 32 = .ok (.ifCond .ne 14, 3) := by decide +kernel
theorem dL_law_35 : decode cL_law 35 = .ok (.aload_n 1, 1) := by decide +kernel
theorem dL_law_36 : decode cL_law 36 = .ok (.bipush 90, 2) := by decide +kernel
theorem dL_law_38 : decode cL_law 38 = .ok (.invokestatic 174, 3) := by decide +kernel
theorem dL_law_41 : decode cL_law 41 = .ok (.bipush 20, 2) := by decide +kernel
theorem dL_law_43 : decode cL_law 43 = .ok (.if_icmp .eq 5, 3) := by decide +kernel
theorem dL_law_46 : decode cL_law 46 = .ok (.iconst 0, 1) := by decide +kernel
theorem dL_law_47 : decode cL_law 47 = .ok (.ireturn, 1) := by decide +kernel
theorem dL_law_48 : decode cL_law 48 = .ok (.iconst 0, 1) := by decide +kernel
theorem dL_law_49 : decode cL_law 49 = .ok (.istore_n 2, 1) := by decide +kernel
theorem dL_law_50 : decode cL_law 50 = .ok (.iload_n 2, 1) := by decide +kernel
theorem dL_law_51 : decode cL_law 51 = .ok (.bipush 60, 2) := by decide +kernel
theorem dL_law_53 : decode cL_law 53 = .ok (.if_icmp .ge 26, 3) := by decide +kernel
theorem dL_law_56 : decode cL_law 56 = .ok (.aload_n 1, 1) := by decide +kernel
theorem dL_law_57 : decode cL_law 57 = .ok (.bipush 65, 2) := by decide +kernel
theorem dL_law_59 : decode cL_law 59 = .ok (.iload_n 2, 1) := by decide +kernel
theorem dL_law_60 : decode cL_law 60 = .ok (.iadd, 1) := by decide +kernel
theorem dL_law_61 : decode cL_law 61 = .ok (.i2c, 1) := by decide +kernel
theorem dL_law_62 : decode cL_law 62 = .ok (.invokestatic 153, 3) := by decide +kernel
theorem dL_law_65 : decode cL_law 65 = .ok (.iload_n 2, 1) := by decide +kernel
theorem dL_law_66 : decode cL_law 66 = .ok (.iconst 1, 1) := by decide +kernel
theorem dL_law_67 : decode cL_law 67 = .ok (.iadd, 1) := by decide +kernel
theorem dL_law_68 : decode cL_law 68 = .ok (.if_icmp .eq 5, 3) := by decide +kernel
theorem dL_law_71 : decode cL_law 71 = .ok (.iconst 0, 1) := by decide +kernel
theorem dL_law_72 : decode cL_law 72 = .ok (.ireturn, 1) := by decide +kernel
theorem dL_law_73 : decode cL_law 73 = .ok (.iinc 2 1, 3) := by decide +kernel
theorem dL_law_76 : decode cL_law 76 = .ok (.goto (-26), 3) := by decide +kernel
theorem dL_law_79 : decode cL_law 79 = .ok (.aload_n 1, 1) := by decide +kernel
theorem dL_law_80 : decode cL_law 80 = .ok (.bipush 109, 2) := by decide +kernel
theorem dL_law_82 : decode cL_law 82 = .ok (.invokestatic 153, 3) := by decide +kernel
theorem dL_law_85 : decode cL_law 85 = .ok (.sipush (-1001), 3) := by decide +kernel
theorem dL_law_88 : decode cL_law 88 = .ok (.if_icmp .ne 48, 3) := by decide +kernel
theorem dL_law_91 : decode cL_law 91 = .ok (.aload_n 1, 1) := by decide +kernel
theorem dL_law_92 : decode cL_law 92 = .ok (.invokestatic 158, 3) := by decide +kernel
theorem dL_law_95 : decode cL_law 95 = .ok (.sipush (-1001), 3) := by decide +kernel
theorem dL_law_98 : decode cL_law 98 = .ok (.if_icmp .ne 38, 3) := by decide +kernel
theorem dL_law_101 : decode cL_law 101 = .ok (.aload_n 1, 1) := by decide +kernel
theorem dL_law_102 : decode cL_law 102 = .ok (.invokestatic 311, 3) := by decide +kernel
theorem dL_law_105 : decode cL_law 105 = .ok (.ifCond .ne 31, 3) := by decide +kernel
theorem dL_law_108 : decode cL_law 108 = .ok (.aload_n 1, 1) := by decide +kernel
theorem dL_law_109 : decode cL_law 109 = .ok (.bipush 109, 2) := by decide +kernel
theorem dL_law_111 : decode cL_law 111 = .ok (.invokestatic 153, 3) := by decide +kernel
theorem dL_law_114 : decode cL_law 114 = .ok (.iconst 1, 1) := by decide +kernel
theorem dL_law_115 : decode cL_law 115 = .ok (.if_icmp .ne 21, 3) := by decide +kernel
theorem dL_law_118 : decode cL_law 118 = .ok (.aload_n 1, 1) := by decide +kernel
theorem dL_law_119 : decode cL_law 119 = .ok (.invokestatic 158, 3) := by decide +kernel
theorem dL_law_122 : decode cL_law 122 = .ok (.sipush (-1001), 3) := by decide +kernel
theorem dL_law_125 : decode cL_law 125 = .ok (.if_icmp .ne 11, 3) := by decide +kernel
theorem dL_law_128 : decode cL_law 128 = .ok (.aload_n 1, 1) := by decide +kernel
theorem dL_law_129 : decode cL_law 129 = .ok (.invokestatic 311, 3) := by decide +kernel
theorem dL_law_132 : decode cL_law 132 = .ok (.iconst 1, 1) := by decide +kernel
theorem dL_law_133 : decode cL_law 133 = .ok (.if_icmp .eq 5, 3) := by decide +kernel
theorem dL_law_136 : decode cL_law 136 = .ok (.iconst 0, 1) := by decide +kernel
theorem dL_law_137 : decode cL_law 137 = .ok (.ireturn, 1) := by decide +kernel
theorem dL_law_138 : decode cL_law 138 = .ok (.iconst 0, 1) := by decide +kernel
theorem dL_law_139 : decode cL_law 139 = .ok (.istore_n 2, 1) := by decide +kernel
theorem dL_law_140 : decode cL_law 140 = .ok (.iload_n 2, 1) := by decide +kernel
theorem dL_law_141 : decode cL_law 141 = .ok (.bipush 8, 2) := by decide +kernel
theorem dL_law_143 : decode cL_law 143 = .ok (.if_icmp .ge 19, 3) := by decide +kernel
theorem dL_law_146 : decode cL_law 146 = .ok (.aload_n 1, 1) := by decide +kernel
theorem dL_law_147 : decode cL_law 147 = .ok (.invokestatic 172, 3) := by decide +kernel
theorem dL_law_150 : decode cL_law 150 = .ok (.iload_n 2, 1) := by decide +kernel
theorem dL_law_151 : decode cL_law 151 = .ok (.if_icmp .eq 5, 3) := by decide +kernel
theorem dL_law_154 : decode cL_law 154 = .ok (.iconst 0, 1) := by decide +kernel
theorem dL_law_155 : decode cL_law 155 = .ok (.ireturn, 1) := by decide +kernel
theorem dL_law_156 : decode cL_law 156 = .ok (.iinc 2 1, 3) := by decide +kernel
theorem dL_law_159 : decode cL_law 159 = .ok (.goto (-19), 3) := by decide +kernel
theorem dL_law_162 : decode cL_law 162 = .ok (.aload_n 1, 1) := by decide +kernel
theorem dL_law_163 : decode cL_law 163 = .ok (.invokestatic 172, 3) := by decide +kernel
theorem dL_law_166 : decode cL_law 166 = .ok (.sipush (-1001), 3) := by decide +kernel
theorem dL_law_169 : decode cL_law 169 = .ok (.if_icmp .eq 5, 3) := by decide +kernel
theorem dL_law_172 : decode cL_law 172 = .ok (.iconst 0, 1) := by decide +kernel
theorem dL_law_173 : decode cL_law 173 = .ok (.ireturn, 1) := by decide +kernel
theorem dL_law_174 : decode cL_law 174 = .ok (.iconst 0, 1) := by decide +kernel
theorem dL_law_175 : decode cL_law 175 = .ok (.istore_n 2, 1) := by decide +kernel
theorem dL_law_176 : decode cL_law 176 = .ok (.iload_n 2, 1) := by decide +kernel
theorem dL_law_177 : decode cL_law 177 = .ok (.bipush 8, 2) := by decide +kernel
theorem dL_law_179 : decode cL_law 179 = .ok (.if_icmp .ge 33, 3) := by decide +kernel
theorem dL_law_182 : decode cL_law 182 = .ok (.aload_n 1, 1) := by decide +kernel
theorem dL_law_183 : decode cL_law 183 = .ok (.iload_n 2, 1) := by decide +kernel
theorem dL_law_184 : decode cL_law 184 = .ok (.iload_n 2, 1) := by decide +kernel
theorem dL_law_185 : decode cL_law 185 = .ok (.iconst 1, 1) := by decide +kernel
theorem dL_law_186 : decode cL_law 186 = .ok (.iadd, 1) := by decide +kernel
theorem dL_law_187 : decode cL_law 187 = .ok (.bipush 8, 2) := by decide +kernel
theorem dL_law_189 : decode cL_law 189 = .ok (.irem, 1) := by decide +kernel
theorem dL_law_190 : decode cL_law 190 = .ok (.bipush 31, 2) := by decide +kernel
theorem dL_law_192 : decode cL_law 192 = .ok (.iload_n 2, 1) := by decide +kernel
theorem dL_law_193 : decode cL_law 193 = .ok (.iadd, 1) := by decide +kernel
theorem dL_law_194 : decode cL_law 194 = .ok (.invokestatic 176, 3) := by decide +kernel
theorem dL_law_197 : decode cL_law 197 = .ok (.bipush 31, 2) := by decide +kernel
theorem dL_law_199 : decode cL_law 199 = .ok (.iload_n 2, 1) := by decide +kernel
theorem dL_law_200 : decode cL_law 200 = .ok (.iadd, 1) := by decide +kernel
theorem dL_law_201 : decode cL_law 201 = .ok (.if_icmp .eq 5, 3) := by decide +kernel
theorem dL_law_204 : decode cL_law 204 = .ok (.iconst 0, 1) := by decide +kernel
theorem dL_law_205 : decode cL_law 205 = .ok (.ireturn, 1) := by decide +kernel
theorem dL_law_206 : decode cL_law 206 = .ok (.iinc 2 1, 3) := by decide +kernel
theorem dL_law_209 : decode cL_law 209 = .ok (.goto (-33), 3) := by decide +kernel
theorem dL_law_212 : decode cL_law 212 = .ok (.aload_n 1, 1) := by decide +kernel
theorem dL_law_213 : decode cL_law 213 = .ok (.iconst 0, 1) := by decide +kernel
theorem dL_law_214 : decode cL_law 214 = .ok (.invokestatic 226, 3) := by decide +kernel
theorem dL_law_217 : decode cL_law 217 = .ok (.bipush 7, 2) := by decide +kernel
theorem dL_law_219 : decode cL_law 219 = .ok (.if_icmp .ne 63, 3) := by decide +kernel
theorem dL_law_222 : decode cL_law 222 = .ok (.aload_n 1, 1) := by decide +kernel
theorem dL_law_223 : decode cL_law 223 = .ok (.invokevirtual 214, 3) := by decide +kernel
theorem dL_law_226 : decode cL_law 226 = .ok (.ifCond .ne 56, 3) := by decide +kernel
theorem dL_law_229 : decode cL_law 229 = .ok (.aload_n 1, 1) := by decide +kernel
theorem dL_law_230 : decode cL_law 230 = .ok (.bipush 7, 2) := by decide +kernel
theorem dL_law_232 : decode cL_law 232 = .ok (.invokestatic 275, 3) := by decide +kernel
theorem dL_law_235 : decode cL_law 235 = .ok (.bipush 8, 2) := by decide +kernel
theorem dL_law_237 : decode cL_law 237 = .ok (.if_icmp .ne 45, 3) := by decide +kernel
theorem dL_law_240 : decode cL_law 240 = .ok (.aload_n 1, 1) := by decide +kernel
theorem dL_law_241 : decode cL_law 241 = .ok (.iconst 0, 1) := by decide +kernel
theorem dL_law_242 : decode cL_law 242 = .ok (.invokestatic 292, 3) := by decide +kernel
theorem dL_law_245 : decode cL_law 245 = .ok (.bipush 60, 2) := by decide +kernel
theorem dL_law_247 : decode cL_law 247 = .ok (.if_icmp .ne 35, 3) := by decide +kernel
theorem dL_law_250 : decode cL_law 250 = .ok (.aload_n 1, 1) := by decide +kernel
theorem dL_law_251 : decode cL_law 251 = .ok (.invokevirtual 246, 3) := by decide +kernel
theorem dL_law_254 : decode cL_law 254 = .ok (.bipush 7, 2) := by decide +kernel
theorem dL_law_256 : decode cL_law 256 = .ok (.if_icmp .ne 26, 3) := by decide +kernel
theorem dL_law_259 : decode cL_law 259 = .ok (.aload_n 1, 1) := by decide +kernel
theorem dL_law_260 : decode cL_law 260 = .ok (.iconst 0, 1) := by decide +kernel
theorem dL_law_261 : decode cL_law 261 = .ok (.bipush 7, 2) := by decide +kernel
theorem dL_law_263 : decode cL_law 263 = .ok (.invokestatic 290, 3) := by decide +kernel
theorem dL_law_266 : decode cL_law 266 = .ok (.bipush 31, 2) := by decide +kernel
theorem dL_law_268 : decode cL_law 268 = .ok (.if_icmp .ne 14, 3) := by decide +kernel
theorem dL_law_271 : decode cL_law 271 = .ok (.aload_n 1, 1) := by decide +kernel
theorem dL_law_272 : decode cL_law 272 = .ok (.iconst 1, 1) := by decide +kernel
theorem dL_law_273 : decode cL_law 273 = .ok (.bipush 7, 2) := by decide +kernel
theorem dL_law_275 : decode cL_law 275 = .ok (.invokestatic 290, 3) := by decide +kernel
theorem dL_law_278 : decode cL_law 278 = .ok (.iconst 1, 1) := by decide +kernel
theorem dL_law_279 : decode cL_law 279 = .ok (.if_icmp .eq 5, 3) := by decide +kernel
theorem dL_law_282 : decode cL_law 282 = .ok (.iconst 0, 1) := by decide +kernel
theorem dL_law_283 : decode cL_law 283 = .ok (.ireturn, 1) := by decide +kernel
theorem dL_law_284 : decode cL_law 284 = .ok (.aload_n 1, 1) := by decide +kernel
theorem dL_law_285 : decode cL_law 285 = .ok (.invokestatic 320, 3) := by decide +kernel
theorem dL_law_288 : decode cL_law 288 = .ok (.bipush 7, 2) := by decide +kernel
theorem dL_law_290 : decode cL_law 290 = .ok (.if_icmp .ne 128, 3) := by decide +kernel
theorem dL_law_293 : decode cL_law 293 = .ok (.aload_n 1, 1) := by decide +kernel
theorem dL_law_294 : decode cL_law 294 = .ok (.bipush 6, 2) := by decide +kernel
theorem dL_law_296 : decode cL_law 296 = .ok (.bipush 7, 2) := by decide +kernel
theorem dL_law_298 : decode cL_law 298 = .ok (.invokestatic 290, 3) := by decide +kernel
theorem dL_law_301 : decode cL_law 301 = .ok (.bipush 37, 2) := by decide +kernel
theorem dL_law_303 : decode cL_law 303 = .ok (.if_icmp .ne 115, 3) := by decide +kernel
theorem dL_law_306 : decode cL_law 306 = .ok (.aload_n 1, 1) := by decide +kernel
theorem dL_law_307 : decode cL_law 307 = .ok (.invokestatic 320, 3) := by decide +kernel
theorem dL_law_310 : decode cL_law 310 = .ok (.bipush 6, 2) := by decide +kernel
theorem dL_law_312 : decode cL_law 312 = .ok (.if_icmp .ne 106, 3) := by decide +kernel
theorem dL_law_315 : decode cL_law 315 = .ok (.aload_n 1, 1) := by decide +kernel
theorem dL_law_316 : decode cL_law 316 = .ok (.iconst 0, 1) := by decide +kernel
theorem dL_law_317 : decode cL_law 317 = .ok (.invokestatic 292, 3) := by decide +kernel
theorem dL_law_320 : decode cL_law 320 = .ok (.bipush 30, 2) := by decide +kernel
theorem dL_law_322 : decode cL_law 322 = .ok (.if_icmp .ne 96, 3) := by decide +kernel
theorem dL_law_325 : decode cL_law 325 = .ok (.aload_n 1, 1) := by decide +kernel
theorem dL_law_326 : decode cL_law 326 = .ok (.bipush 7, 2) := by decide +kernel
theorem dL_law_328 : decode cL_law 328 = .ok (.invokestatic 287, 3) := by decide +kernel
theorem dL_law_331 : decode cL_law 331 = .ok (.ifCond .ne 87, 3) := by decide +kernel
theorem dL_law_334 : decode cL_law 334 = .ok (.aload_n 1, 1) := by decide +kernel
theorem dL_law_335 : decode cL_law 335 = .ok (.invokestatic 320, 3) := by decide +kernel
theorem dL_law_338 : decode cL_law 338 = .ok (.iconst 5, 1) := by decide +kernel
theorem dL_law_339 : decode cL_law 339 = .ok (.if_icmp .ne 79, 3) := by decide +kernel
theorem dL_law_342 : decode cL_law 342 = .ok (.aload_n 1, 1) := by decide +kernel
theorem dL_law_343 : decode cL_law 343 = .ok (.bipush 7, 2) := by decide +kernel
theorem dL_law_345 : decode cL_law 345 = .ok (.iconst 0, 1) := by decide +kernel
theorem dL_law_346 : decode cL_law 346 = .ok (.invokestatic 290, 3) := by decide +kernel
theorem dL_law_349 : decode cL_law 349 = .ok (.ifCond .ne 69, 3) := by decide +kernel
theorem dL_law_352 : decode cL_law 352 = .ok (.aload_n 1, 1) := by decide +kernel
theorem dL_law_353 : decode cL_law 353 = .ok (.invokestatic 320, 3) := by decide +kernel
theorem dL_law_356 : decode cL_law 356 = .ok (.iconst 4, 1) := by decide +kernel
theorem dL_law_357 : decode cL_law 357 = .ok (.if_icmp .ne 61, 3) := by decide +kernel
theorem dL_law_360 : decode cL_law 360 = .ok (.aload_n 1, 1) := by decide +kernel
theorem dL_law_361 : decode cL_law 361 = .ok (.invokestatic 320, 3) := by decide +kernel
theorem dL_law_364 : decode cL_law 364 = .ok (.iconst 3, 1) := by decide +kernel
theorem dL_law_365 : decode cL_law 365 = .ok (.if_icmp .ne 53, 3) := by decide +kernel
theorem dL_law_368 : decode cL_law 368 = .ok (.aload_n 1, 1) := by decide +kernel
theorem dL_law_369 : decode cL_law 369 = .ok (.invokestatic 320, 3) := by decide +kernel
theorem dL_law_372 : decode cL_law 372 = .ok (.iconst 2, 1) := by decide +kernel
theorem dL_law_373 : decode cL_law 373 = .ok (.if_icmp .ne 45, 3) := by decide +kernel
theorem dL_law_376 : decode cL_law 376 = .ok (.aload_n 1, 1) := by decide +kernel
theorem dL_law_377 : decode cL_law 377 = .ok (.invokestatic 320, 3) := by decide +kernel
theorem dL_law_380 : decode cL_law 380 = .ok (.iconst 1, 1) := by decide +kernel
theorem dL_law_381 : decode cL_law 381 = .ok (.if_icmp .ne 37, 3) := by decide +kernel
theorem dL_law_384 : decode cL_law 384 = .ok (.aload_n 1, 1) := by decide +kernel
theorem dL_law_385 : decode cL_law 385 = .ok (.invokestatic 320, 3) := by decide +kernel
theorem dL_law_388 : decode cL_law 388 = .ok (.ifCond .ne 30, 3) := by decide +kernel
theorem dL_law_391 : decode cL_law 391 = .ok (.aload_n 1, 1) := by decide +kernel
theorem dL_law_392 : decode cL_law 392 = .ok (.invokevirtual 306, 3) := by decide +kernel
theorem dL_law_395 : decode cL_law 395 = .ok (.iconst 2, 1) := by decide +kernel
theorem dL_law_396 : decode cL_law 396 = .ok (.if_icmp .ne 22, 3) := by decide +kernel
theorem dL_law_399 : decode cL_law 399 = .ok (.aload_n 1, 1) := by decide +kernel
theorem dL_law_400 : decode cL_law 400 = .ok (.invokevirtual 182, 3) := by decide +kernel
theorem dL_law_403 : decode cL_law 403 = .ok (.bipush 8, 2) := by decide +kernel
theorem dL_law_405 : decode cL_law 405 = .ok (.if_icmp .ne 13, 3) := by decide +kernel
theorem dL_law_408 : decode cL_law 408 = .ok (.aload_n 1, 1) := by decide +kernel
theorem dL_law_409 : decode cL_law 409 = .ok (.invokestatic 320, 3) := by decide +kernel
theorem dL_law_412 : decode cL_law 412 = .ok (.sipush (-1001), 3) := by decide +kernel
theorem dL_law_415 : decode cL_law 415 = .ok (.if_icmp .eq 5, 3) := by decide +kernel
theorem dL_law_418 : decode cL_law 418 = .ok (.iconst 0, 1) := by decide +kernel
theorem dL_law_419 : decode cL_law 419 = .ok (.ireturn, 1) := by decide +kernel
theorem dL_law_420 : decode cL_law 420 = .ok (.aload_n 1, 1) := by decide +kernel
theorem dL_law_421 : decode cL_law 421 = .ok (.invokestatic 322, 3) := by decide +kernel
theorem dL_law_424 : decode cL_law 424 = .ok (.ifCond .ne 29, 3) := by decide +kernel
theorem dL_law_427 : decode cL_law 427 = .ok (.aload_n 1, 1) := by decide +kernel
theorem dL_law_428 : decode cL_law 428 = .ok (.invokevirtual 182, 3) := by decide +kernel
theorem dL_law_431 : decode cL_law 431 = .ok (.ifCond .ne 22, 3) := by decide +kernel
theorem dL_law_434 : decode cL_law 434 = .ok (.aload_n 1, 1) := by decide +kernel
theorem dL_law_435 : decode cL_law 435 = .ok (.invokevirtual 205, 3) := by decide +kernel
theorem dL_law_438 : decode cL_law 438 = .ok (.bipush 20, 2) := by decide +kernel
theorem dL_law_440 : decode cL_law 440 = .ok (.if_icmp .ne 13, 3) := by decide +kernel
theorem dL_law_443 : decode cL_law 443 = .ok (.aload_n 1, 1) := by decide +kernel
theorem dL_law_444 : decode cL_law 444 = .ok (.invokestatic 320, 3) := by decide +kernel
theorem dL_law_447 : decode cL_law 447 = .ok (.sipush (-1001), 3) := by decide +kernel
theorem dL_law_450 : decode cL_law 450 = .ok (.if_icmp .eq 5, 3) := by decide +kernel
theorem dL_law_453 : decode cL_law 453 = .ok (.iconst 0, 1) := by decide +kernel
theorem dL_law_454 : decode cL_law 454 = .ok (.ireturn, 1) := by decide +kernel
theorem dL_law_455 : decode cL_law 455 = .ok (.new 8, 3) := by decide +kernel
theorem dL_law_458 : decode cL_law 458 = .ok (.dup, 1) := by decide +kernel
theorem dL_law_459 : decode cL_law 459 = .ok (.invokespecial 319, 3) := by decide +kernel
theorem dL_law_462 : decode cL_law 462 = .ok (.astore_n 2, 1) := by decide +kernel
theorem dL_law_463 : decode cL_law 463 = .ok (.aload_n 2, 1) := by decide +kernel
theorem dL_law_464 : decode cL_law 464 = .ok (.aload_n 0, 1) := by decide +kernel
theorem dL_law_465 : decode cL_law 465 = .ok (.invokestatic 327, 3) := by decide +kernel
theorem dL_law_468 : decode cL_law 468 = .ok (.ifCond .ne 5, 3) := by decide +kernel
theorem dL_law_471 : decode cL_law 471 = .ok (.iconst 0, 1) := by decide +kernel
theorem dL_law_472 : decode cL_law 472 = .ok (.ireturn, 1) := by decide +kernel
theorem dL_law_473 : decode cL_law 473 = .ok (.aload_n 2, 1) := by decide +kernel
theorem dL_law_474 : decode cL_law 474 = .ok (.invokestatic 278, 3) := by decide +kernel
theorem dL_law_477 : decode cL_law 477 = .ok (.lstore_n 3, 1) := by decide +kernel
theorem dL_law_478 : decode cL_law 478 = .ok (.aload_n 2, 1) := by decide +kernel
theorem dL_law_479 : decode cL_law 479 = .ok (.invokestatic 278, 3) := by decide +kernel
theorem dL_law_482 : decode cL_law 482 = .ok (.lload_n 3, 1) := by decide +kernel
theorem dL_law_483 : decode cL_law 483 = .ok (.lcmp, 1) := by decide +kernel
theorem dL_law_484 : decode cL_law 484 = .ok (.ifCond .ne 10, 3) := by decide +kernel
theorem dL_law_487 : decode cL_law 487 = .ok (.aload_n 2, 1) := by decide +kernel
theorem dL_law_488 : decode cL_law 488 = .ok (.invokestatic 331, 3) := by decide +kernel
theorem dL_law_491 : decode cL_law 491 = .ok (.ifCond .ne 5, 3) := by decide +kernel
theorem dL_law_494 : decode cL_law 494 = .ok (.iconst 0, 1) := by decide +kernel
theorem dL_law_495 : decode cL_law 495 = .ok (.ireturn, 1) := by decide +kernel
theorem dL_law_496 : decode cL_law 496 = .ok (.aload_n 2, 1) := by decide +kernel
theorem dL_law_497 : decode cL_law 497 = .ok (.invokevirtual 324, 3) := by decide +kernel
theorem dL_law_500 : decode cL_law 500 = .ok (.istore 5, 2) := by decide +kernel
theorem dL_law_502 : decode cL_law 502 = .ok (.iload 5, 2) := by decide +kernel
theorem dL_law_504 : decode cL_law 504 = .ok (.aload_n 2, 1) := by decide +kernel
theorem dL_law_505 : decode cL_law 505 = .ok (.invokevirtual 182, 3) := by decide +kernel
theorem dL_law_508 : decode cL_law 508 = .ok (.if_icmp .ne 28, 3) := by decide +kernel
theorem dL_law_511 : decode cL_law 511 = .ok (.aload_n 2, 1) := by decide +kernel
theorem dL_law_512 : decode cL_law 512 = .ok (.invokestatic 278, 3) := by decide +kernel
theorem dL_law_515 : decode cL_law 515 = .ok (.lload_n 3, 1) := by decide +kernel
theorem dL_law_516 : decode cL_law 516 = .ok (.lcmp, 1) := by decide +kernel
theorem dL_law_517 : decode cL_law 517 = .ok (.ifCond .ne 19, 3) := by decide +kernel
theorem dL_law_520 : decode cL_law 520 = .ok (.aload_n 2, 1) := by decide +kernel
theorem dL_law_521 : decode cL_law 521 = .ok (.invokestatic 322, 3) := by decide +kernel
theorem dL_law_524 : decode cL_law 524 = .ok (.iload 5, 2) := by decide +kernel
theorem dL_law_526 : decode cL_law 526 = .ok (.if_icmp .ne 10, 3) := by decide +kernel
theorem dL_law_529 : decode cL_law 529 = .ok (.aload_n 2, 1) := by decide +kernel
theorem dL_law_530 : decode cL_law 530 = .ok (.invokevirtual 282, 3) := by decide +kernel
theorem dL_law_533 : decode cL_law 533 = .ok (.ifCond .eq 5, 3) := by decide +kernel
theorem dL_law_536 : decode cL_law 536 = .ok (.iconst 0, 1) := by decide +kernel
theorem dL_law_537 : decode cL_law 537 = .ok (.ireturn, 1) := by decide +kernel
theorem dL_law_538 : decode cL_law 538 = .ok (.bipush 9, 2) := by decide +kernel
theorem dL_law_540 : decode cL_law 540 = .ok (.newarray .long, 2) := by decide +kernel
theorem dL_law_542 : decode cL_law 542 = .ok (.astore 6, 2) := by decide +kernel
theorem dL_law_544 : decode cL_law 544 = .ok (.iconst 0, 1) := by decide +kernel
theorem dL_law_545 : decode cL_law 545 = .ok (.istore 7, 2) := by decide +kernel
theorem dL_law_547 : decode cL_law 547 = .ok (.iconst 0, 1) := by decide +kernel
theorem dL_law_548 : decode cL_law 548 = .ok (.istore 8, 2) := by decide +kernel
theorem dL_law_550 : decode cL_law 550 = .ok (.iload 8, 2) := by decide +kernel
theorem dL_law_552 : decode cL_law 552 = .ok (.bipush 8, 2) := by decide +kernel
theorem dL_law_554 : decode cL_law 554 = .ok (.if_icmp .ge 74, 3) := by decide +kernel
theorem dL_law_557 : decode cL_law 557 = .ok (.aload_n 2, 1) := by decide +kernel
theorem dL_law_558 : decode cL_law 558 = .ok (.invokestatic 278, 3) := by decide +kernel
theorem dL_law_561 : decode cL_law 561 = .ok (.lstore 9, 2) := by decide +kernel
theorem dL_law_563 : decode cL_law 563 = .ok (.aload_n 2, 1) := by decide +kernel
theorem dL_law_564 : decode cL_law 564 = .ok (.aload_n 0, 1) := by decide +kernel
theorem dL_law_565 : decode cL_law 565 = .ok (.bipush 20, 2) := by decide +kernel
theorem dL_law_567 : decode cL_law 567 = .ok (.iload 8, 2) := by decide +kernel
theorem dL_law_569 : decode cL_law 569 = .ok (.iadd, 1) := by decide +kernel
theorem dL_law_570 : decode cL_law 570 = .ok (.invokestatic 165, 3) := by decide +kernel
theorem dL_law_573 : decode cL_law 573 = .ok (.iload 8, 2) := by decide +kernel
theorem dL_law_575 : decode cL_law 575 = .ok (.sipush 977, 3) := by decide +kernel
theorem dL_law_578 : decode cL_law 578 = .ok (.imul, 1) := by decide +kernel
theorem dL_law_579 : decode cL_law 579 = .ok (.ixor, 1) := by decide +kernel
theorem dL_law_580 : decode cL_law 580 = .ok (.invokestatic 335, 3) := by decide +kernel
theorem dL_law_583 : decode cL_law 583 = .ok (.ifCond .eq 16, 3) := by decide +kernel
theorem dL_law_586 : decode cL_law 586 = .ok (.aload 6, 2) := by decide +kernel
theorem dL_law_588 : decode cL_law 588 = .ok (.iload 7, 2) := by decide +kernel
theorem dL_law_590 : decode cL_law 590 = .ok (.iinc 7 1, 3) := by decide +kernel
theorem dL_law_593 : decode cL_law 593 = .ok (.lload 9, 2) := by decide +kernel
theorem dL_law_595 : decode cL_law 595 = .ok (.lastore, 1) := by decide +kernel
theorem dL_law_596 : decode cL_law 596 = .ok (.goto 15, 3) := by decide +kernel
theorem dL_law_599 : decode cL_law 599 = .ok (.aload_n 2, 1) := by decide +kernel
theorem dL_law_600 : decode cL_law 600 = .ok (.invokestatic 278, 3) := by decide +kernel
theorem dL_law_603 : decode cL_law 603 = .ok (.lload 9, 2) := by decide +kernel
theorem dL_law_605 : decode cL_law 605 = .ok (.lcmp, 1) := by decide +kernel
theorem dL_law_606 : decode cL_law 606 = .ok (.ifCond .eq 5, 3) := by decide +kernel
theorem dL_law_609 : decode cL_law 609 = .ok (.iconst 0, 1) := by decide +kernel
theorem dL_law_610 : decode cL_law 610 = .ok (.ireturn, 1) := by decide +kernel
theorem dL_law_611 : decode cL_law 611 = .ok (.aload_n 2, 1) := by decide +kernel
theorem dL_law_612 : decode cL_law 612 = .ok (.invokevirtual 282, 3) := by decide +kernel
theorem dL_law_615 : decode cL_law 615 = .ok (.iload 7, 2) := by decide +kernel
theorem dL_law_617 : decode cL_law 617 = .ok (.if_icmp .eq 5, 3) := by decide +kernel
theorem dL_law_620 : decode cL_law 620 = .ok (.iconst 0, 1) := by decide +kernel
theorem dL_law_621 : decode cL_law 621 = .ok (.ireturn, 1) := by decide +kernel
theorem dL_law_622 : decode cL_law 622 = .ok (.iinc 8 1, 3) := by decide +kernel
theorem dL_law_625 : decode cL_law 625 = .ok (.goto (-75), 3) := by decide +kernel
theorem dL_law_628 : decode cL_law 628 = .ok (.iconst 1, 1) := by decide +kernel
theorem dL_law_629 : decode cL_law 629 = .ok (.istore 8, 2) := by decide +kernel
theorem dL_law_631 : decode cL_law 631 = .ok (.iload 8, 2) := by decide +kernel
theorem dL_law_633 : decode cL_law 633 = .ok (.iload 7, 2) := by decide +kernel
theorem dL_law_635 : decode cL_law 635 = .ok (.if_icmp .gt 39, 3) := by decide +kernel
theorem dL_law_638 : decode cL_law 638 = .ok (.aload_n 2, 1) := by decide +kernel
theorem dL_law_639 : decode cL_law 639 = .ok (.invokestatic 320, 3) := by decide +kernel
theorem dL_law_642 : decode cL_law 642 = .ok (.iload 7, 2) := by decide +kernel
theorem dL_law_644 : decode cL_law 644 = .ok (.iload 8, 2) := by decide +kernel
theorem dL_law_646 : decode cL_law 646 = .ok (.isub, 1) := by decide +kernel
theorem dL_law_647 : decode cL_law 647 = .ok (.if_icmp .ne 19, 3) := by decide +kernel
theorem dL_law_650 : decode cL_law 650 = .ok (.aload_n 2, 1) := by decide +kernel
theorem dL_law_651 : decode cL_law 651 = .ok (.invokestatic 278, 3) := by decide +kernel
theorem dL_law_654 : decode cL_law 654 = .ok (.aload 6, 2) := by decide +kernel
theorem dL_law_656 : decode cL_law 656 = .ok (.iload 7, 2) := by decide +kernel
theorem dL_law_658 : decode cL_law 658 = .ok (.iload 8, 2) := by decide +kernel
theorem dL_law_660 : decode cL_law 660 = .ok (.isub, 1) := by decide +kernel
theorem dL_law_661 : decode cL_law 661 = .ok (.laload, 1) := by decide +kernel
theorem dL_law_662 : decode cL_law 662 = .ok (.lcmp, 1) := by decide +kernel
theorem dL_law_663 : decode cL_law 663 = .ok (.ifCond .eq 5, 3) := by decide +kernel
theorem dL_law_666 : decode cL_law 666 = .ok (.iconst 0, 1) := by decide +kernel
theorem dL_law_667 : decode cL_law 667 = .ok (.ireturn, 1) := by decide +kernel
theorem dL_law_668 : decode cL_law 668 = .ok (.iinc 8 1, 3) := by decide +kernel
theorem dL_law_671 : decode cL_law 671 = .ok (.goto (-40), 3) := by decide +kernel
theorem dL_law_674 : decode cL_law 674 = .ok (.aload_n 2, 1) := by decide +kernel
theorem dL_law_675 : decode cL_law 675 = .ok (.invokestatic 320, 3) := by decide +kernel
theorem dL_law_678 : decode cL_law 678 = .ok (.sipush (-1001), 3) := by decide +kernel
theorem dL_law_681 : decode cL_law 681 = .ok (.if_icmp .ne 35, 3) := by decide +kernel
theorem dL_law_684 : decode cL_law 684 = .ok (.aload_n 2, 1) := by decide +kernel
theorem dL_law_685 : decode cL_law 685 = .ok (.invokestatic 322, 3) := by decide +kernel
theorem dL_law_688 : decode cL_law 688 = .ok (.iload 5, 2) := by decide +kernel
theorem dL_law_690 : decode cL_law 690 = .ok (.if_icmp .ne 26, 3) := by decide +kernel
theorem dL_law_693 : decode cL_law 693 = .ok (.aload_n 2, 1) := by decide +kernel
theorem dL_law_694 : decode cL_law 694 = .ok (.invokestatic 278, 3) := by decide +kernel
theorem dL_law_697 : decode cL_law 697 = .ok (.lload_n 3, 1) := by decide +kernel
theorem dL_law_698 : decode cL_law 698 = .ok (.lcmp, 1) := by decide +kernel
theorem dL_law_699 : decode cL_law 699 = .ok (.ifCond .ne 17, 3) := by decide +kernel
theorem dL_law_702 : decode cL_law 702 = .ok (.aload_n 2, 1) := by decide +kernel
theorem dL_law_703 : decode cL_law 703 = .ok (.invokestatic 320, 3) := by decide +kernel
theorem dL_law_706 : decode cL_law 706 = .ok (.sipush (-1001), 3) := by decide +kernel
theorem dL_law_709 : decode cL_law 709 = .ok (.if_icmp .ne 7, 3) := by decide +kernel
theorem dL_law_712 : decode cL_law 712 = .ok (.iconst 1, 1) := by decide +kernel
theorem dL_law_713 : decode cL_law 713 = .ok (.goto 4, 3) := by decide +kernel
theorem dL_law_716 : decode cL_law 716 = .ok (.iconst 0, 1) := by decide +kernel
theorem dL_law_717 : decode cL_law 717 = .ok (.ireturn, 1) := by decide +kernel
