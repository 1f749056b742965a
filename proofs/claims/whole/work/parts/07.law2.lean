set_option maxRecDepth 100000 in
theorem d_L_law_490 : decode code 490 = .ok (.iconst 0, 1) := by decide +kernel
set_option maxRecDepth 100000 in
theorem d_L_law_491 : decode code 491 = .ok (.laload, 1) := by decide +kernel
set_option maxRecDepth 100000 in
theorem d_L_law_492 : decode code 492 = .ok (.iload 6, 2) := by decide +kernel
set_option maxRecDepth 100000 in
theorem d_L_law_494 : decode code 494 = .ok (.i2l, 1) := by decide +kernel
set_option maxRecDepth 100000 in
theorem d_L_law_495 : decode code 495 = .ok (.lcmp, 1) := by decide +kernel
set_option maxRecDepth 100000 in
theorem d_L_law_496 : decode code 496 = .ok (.ifCond .eq 5, 3) := by decide +kernel
set_option maxRecDepth 100000 in
theorem d_L_law_499 : decode code 499 = .ok (.iconst 0, 1) := by decide +kernel
set_option maxRecDepth 100000 in
theorem d_L_law_500 : decode code 500 = .ok (.ireturn, 1) := by decide +kernel
set_option maxRecDepth 100000 in
theorem d_L_law_501 : decode code 501 = .ok (.goto 748, 3) := by decide +kernel
set_option maxRecDepth 100000 in
theorem d_L_law_504 : decode code 504 = .ok (.aload_n 1, 1) := by decide +kernel
set_option maxRecDepth 100000 in
theorem d_L_law_505 : decode code 505 = .ok (.aload_n 0, 1) := by decide +kernel
set_option maxRecDepth 100000 in
theorem d_L_law_506 : decode code 506 = .ok (.iload 4, 2) := by decide +kernel
set_option maxRecDepth 100000 in
theorem d_L_law_508 : decode code 508 = .ok (.iconst 1, 1) := by decide +kernel
set_option maxRecDepth 100000 in
theorem d_L_law_509 : decode code 509 = .ok (.iadd, 1) := by decide +kernel
set_option maxRecDepth 100000 in
theorem d_L_law_510 : decode code 510 = .ok (.iaload, 1) := by decide +kernel
set_option maxRecDepth 100000 in
theorem d_L_law_511 : decode code 511 = .ok (.aload_n 0, 1) := by decide +kernel
set_option maxRecDepth 100000 in
theorem d_L_law_512 : decode code 512 = .ok (.iload 4, 2) := by decide +kernel
set_option maxRecDepth 100000 in
theorem d_L_law_514 : decode code 514 = .ok (.iconst 2, 1) := by decide +kernel
set_option maxRecDepth 100000 in
theorem d_L_law_515 : decode code 515 = .ok (.iadd, 1) := by decide +kernel
set_option maxRecDepth 100000 in
theorem d_L_law_516 : decode code 516 = .ok (.iaload, 1) := by decide +kernel
set_option maxRecDepth 100000 in
theorem d_L_law_517 : decode code 517 = .ok (.aload_n 3, 1) := by decide +kernel
set_option maxRecDepth 100000 in
theorem d_L_law_518 : decode code 518 = .ok (.invokestatic 112, 3) := by decide +kernel
set_option maxRecDepth 100000 in
theorem d_L_law_521 : decode code 521 = .ok (.istore 5, 2) := by decide +kernel
set_option maxRecDepth 100000 in
theorem d_L_law_523 : decode code 523 = .ok (.aload_n 2, 1) := by decide +kernel
set_option maxRecDepth 100000 in
theorem d_L_law_524 : decode code 524 = .ok (.aload_n 0, 1) := by decide +kernel
set_option maxRecDepth 100000 in
theorem d_L_law_525 : decode code 525 = .ok (.iload 4, 2) := by decide +kernel
set_option maxRecDepth 100000 in
theorem d_L_law_527 : decode code 527 = .ok (.iconst 1, 1) := by decide +kernel
set_option maxRecDepth 100000 in
theorem d_L_law_528 : decode code 528 = .ok (.iadd, 1) := by decide +kernel
set_option maxRecDepth 100000 in
theorem d_L_law_529 : decode code 529 = .ok (.iaload, 1) := by decide +kernel
set_option maxRecDepth 100000 in
theorem d_L_law_530 : decode code 530 = .ok (.aload_n 0, 1) := by decide +kernel
set_option maxRecDepth 100000 in
theorem d_L_law_531 : decode code 531 = .ok (.iload 4, 2) := by decide +kernel
set_option maxRecDepth 100000 in
theorem d_L_law_533 : decode code 533 = .ok (.iconst 2, 1) := by decide +kernel
set_option maxRecDepth 100000 in
theorem d_L_law_534 : decode code 534 = .ok (.iadd, 1) := by decide +kernel
set_option maxRecDepth 100000 in
theorem d_L_law_535 : decode code 535 = .ok (.iaload, 1) := by decide +kernel
set_option maxRecDepth 100000 in
theorem d_L_law_536 : decode code 536 = .ok (.invokevirtual 115, 3) := by decide +kernel
set_option maxRecDepth 100000 in
theorem d_L_law_539 : decode code 539 = .ok (.istore 6, 2) := by decide +kernel
set_option maxRecDepth 100000 in
theorem d_L_law_541 : decode code 541 = .ok (.aload_n 2, 1) := by decide +kernel
set_option maxRecDepth 100000 in
theorem d_L_law_542 : decode code 542 = .ok (.invokevirtual 91, 3) := by decide +kernel
set_option maxRecDepth 100000 in
theorem d_L_law_545 : decode code 545 = .ok (.iload 5, 2) := by decide +kernel
set_option maxRecDepth 100000 in
theorem d_L_law_547 : decode code 547 = .ok (.if_icmp .eq 5, 3) := by decide +kernel
set_option maxRecDepth 100000 in
theorem d_L_law_550 : decode code 550 = .ok (.iconst 0, 1) := by decide +kernel
set_option maxRecDepth 100000 in
theorem d_L_law_551 : decode code 551 = .ok (.ireturn, 1) := by decide +kernel
set_option maxRecDepth 100000 in
theorem d_L_law_552 : decode code 552 = .ok (.iload 5, 2) := by decide +kernel
set_option maxRecDepth 100000 in
theorem d_L_law_554 : decode code 554 = .ok (.ifCond .ne 15, 3) := by decide +kernel
set_option maxRecDepth 100000 in
theorem d_L_law_557 : decode code 557 = .ok (.aload_n 3, 1) := by decide +kernel
set_option maxRecDepth 100000 in
theorem d_L_law_558 : decode code 558 = .ok (.iconst 0, 1) := by decide +kernel
set_option maxRecDepth 100000 in
theorem d_L_law_559 : decode code 559 = .ok (.laload, 1) := by decide +kernel
set_option maxRecDepth 100000 in
theorem d_L_law_560 : decode code 560 = .ok (.iload 6, 2) := by decide +kernel
set_option maxRecDepth 100000 in
theorem d_L_law_562 : decode code 562 = .ok (.i2l, 1) := by decide +kernel
set_option maxRecDepth 100000 in
theorem d_L_law_563 : decode code 563 = .ok (.lcmp, 1) := by decide +kernel
set_option maxRecDepth 100000 in
theorem d_L_law_564 : decode code 564 = .ok (.ifCond .eq 5, 3) := by decide +kernel
set_option maxRecDepth 100000 in
theorem d_L_law_567 : decode code 567 = .ok (.iconst 0, 1) := by decide +kernel
set_option maxRecDepth 100000 in
theorem d_L_law_568 : decode code 568 = .ok (.ireturn, 1) := by decide +kernel
set_option maxRecDepth 100000 in
theorem d_L_law_569 : decode code 569 = .ok (.goto 680, 3) := by decide +kernel
set_option maxRecDepth 100000 in
theorem d_L_law_572 : decode code 572 = .ok (.aload_n 1, 1) := by decide +kernel
set_option maxRecDepth 100000 in
theorem d_L_law_573 : decode code 573 = .ok (.aload_n 0, 1) := by decide +kernel
set_option maxRecDepth 100000 in
theorem d_L_law_574 : decode code 574 = .ok (.iload 4, 2) := by decide +kernel
set_option maxRecDepth 100000 in
theorem d_L_law_576 : decode code 576 = .ok (.iconst 1, 1) := by decide +kernel
set_option maxRecDepth 100000 in
theorem d_L_law_577 : decode code 577 = .ok (.iadd, 1) := by decide +kernel
set_option maxRecDepth 100000 in
theorem d_L_law_578 : decode code 578 = .ok (.iaload, 1) := by decide +kernel
set_option maxRecDepth 100000 in
theorem d_L_law_579 : decode code 579 = .ok (.aload_n 3, 1) := by decide +kernel
set_option maxRecDepth 100000 in
theorem d_L_law_580 : decode code 580 = .ok (.invokestatic 116, 3) := by decide +kernel
set_option maxRecDepth 100000 in
theorem d_L_law_583 : decode code 583 = .ok (.istore 5, 2) := by decide +kernel
set_option maxRecDepth 100000 in
theorem d_L_law_585 : decode code 585 = .ok (.aload_n 2, 1) := by decide +kernel
set_option maxRecDepth 100000 in
theorem d_L_law_586 : decode code 586 = .ok (.aload_n 0, 1) := by decide +kernel
set_option maxRecDepth 100000 in
theorem d_L_law_587 : decode code 587 = .ok (.iload 4, 2) := by decide +kernel
set_option maxRecDepth 100000 in
theorem d_L_law_589 : decode code 589 = .ok (.iconst 1, 1) := by decide +kernel
set_option maxRecDepth 100000 in
theorem d_L_law_590 : decode code 590 = .ok (.iadd, 1) := by decide +kernel
set_option maxRecDepth 100000 in
theorem d_L_law_591 : decode code 591 = .ok (.iaload, 1) := by decide +kernel
set_option maxRecDepth 100000 in
theorem d_L_law_592 : decode code 592 = .ok (.invokevirtual 118, 3) := by decide +kernel
set_option maxRecDepth 100000 in
theorem d_L_law_595 : decode code 595 = .ok (.istore 6, 2) := by decide +kernel
set_option maxRecDepth 100000 in
theorem d_L_law_597 : decode code 597 = .ok (.aload_n 2, 1) := by decide +kernel
set_option maxRecDepth 100000 in
theorem d_L_law_598 : decode code 598 = .ok (.invokevirtual 91, 3) := by decide +kernel
set_option maxRecDepth 100000 in
theorem d_L_law_601 : decode code 601 = .ok (.iload 5, 2) := by decide +kernel
set_option maxRecDepth 100000 in
theorem d_L_law_603 : decode code 603 = .ok (.if_icmp .eq 5, 3) := by decide +kernel
set_option maxRecDepth 100000 in
theorem d_L_law_606 : decode code 606 = .ok (.iconst 0, 1) := by decide +kernel
set_option maxRecDepth 100000 in
theorem d_L_law_607 : decode code 607 = .ok (.ireturn, 1) := by decide +kernel
set_option maxRecDepth 100000 in
theorem d_L_law_608 : decode code 608 = .ok (.iload 5, 2) := by decide +kernel
set_option maxRecDepth 100000 in
theorem d_L_law_610 : decode code 610 = .ok (.ifCond .ne 15, 3) := by decide +kernel
set_option maxRecDepth 100000 in
theorem d_L_law_613 : decode code 613 = .ok (.aload_n 3, 1) := by decide +kernel
set_option maxRecDepth 100000 in
theorem d_L_law_614 : decode code 614 = .ok (.iconst 0, 1) := by decide +kernel
set_option maxRecDepth 100000 in
theorem d_L_law_615 : decode code 615 = .ok (.laload, 1) := by decide +kernel
set_option maxRecDepth 100000 in
theorem d_L_law_616 : decode code 616 = .ok (.iload 6, 2) := by decide +kernel
set_option maxRecDepth 100000 in
theorem d_L_law_618 : decode code 618 = .ok (.i2l, 1) := by decide +kernel
set_option maxRecDepth 100000 in
theorem d_L_law_619 : decode code 619 = .ok (.lcmp, 1) := by decide +kernel
set_option maxRecDepth 100000 in
theorem d_L_law_620 : decode code 620 = .ok (.ifCond .eq 5, 3) := by decide +kernel
set_option maxRecDepth 100000 in
theorem d_L_law_623 : decode code 623 = .ok (.iconst 0, 1) := by decide +kernel
set_option maxRecDepth 100000 in
theorem d_L_law_624 : decode code 624 = .ok (.ireturn, 1) := by decide +kernel
set_option maxRecDepth 100000 in
theorem d_L_law_625 : decode code 625 = .ok (.goto 624, 3) := by decide +kernel
set_option maxRecDepth 100000 in
theorem d_L_law_628 : decode code 628 = .ok (.aload_n 1, 1) := by decide +kernel
set_option maxRecDepth 100000 in
theorem d_L_law_629 : decode code 629 = .ok (.aload_n 0, 1) := by decide +kernel
set_option maxRecDepth 100000 in
theorem d_L_law_630 : decode code 630 = .ok (.iload 4, 2) := by decide +kernel
set_option maxRecDepth 100000 in
theorem d_L_law_632 : decode code 632 = .ok (.iconst 1, 1) := by decide +kernel
set_option maxRecDepth 100000 in
theorem d_L_law_633 : decode code 633 = .ok (.iadd, 1) := by decide +kernel
set_option maxRecDepth 100000 in
theorem d_L_law_634 : decode code 634 = .ok (.iaload, 1) := by decide +kernel
set_option maxRecDepth 100000 in
theorem d_L_law_635 : decode code 635 = .ok (.aload_n 3, 1) := by decide +kernel
set_option maxRecDepth 100000 in
theorem d_L_law_636 : decode code 636 = .ok (.invokestatic 119, 3) := by decide +kernel
set_option maxRecDepth 100000 in
theorem d_L_law_639 : decode code 639 = .ok (.istore 5, 2) := by decide +kernel
set_option maxRecDepth 100000 in
theorem d_L_law_641 : decode code 641 = .ok (.aload_n 2, 1) := by decide +kernel
set_option maxRecDepth 100000 in
theorem d_L_law_642 : decode code 642 = .ok (.aload_n 0, 1) := by decide +kernel
set_option maxRecDepth 100000 in
theorem d_L_law_643 : decode code 643 = .ok (.iload 4, 2) := by decide +kernel
set_option maxRecDepth 100000 in
theorem d_L_law_645 : decode code 645 = .ok (.iconst 1, 1) := by decide +kernel
set_option maxRecDepth 100000 in
theorem d_L_law_646 : decode code 646 = .ok (.iadd, 1) := by decide +kernel
set_option maxRecDepth 100000 in
theorem d_L_law_647 : decode code 647 = .ok (.iaload, 1) := by decide +kernel
set_option maxRecDepth 100000 in
theorem d_L_law_648 : decode code 648 = .ok (.invokevirtual 121, 3) := by decide +kernel
set_option maxRecDepth 100000 in
theorem d_L_law_651 : decode code 651 = .ok (.istore 6, 2) := by decide +kernel
set_option maxRecDepth 100000 in
theorem d_L_law_653 : decode code 653 = .ok (.aload_n 2, 1) := by decide +kernel
set_option maxRecDepth 100000 in
theorem d_L_law_654 : decode code 654 = .ok (.invokevirtual 91, 3) := by decide +kernel
set_option maxRecDepth 100000 in
theorem d_L_law_657 : decode code 657 = .ok (.iload 5, 2) := by decide +kernel
set_option maxRecDepth 100000 in
theorem d_L_law_659 : decode code 659 = .ok (.if_icmp .eq 5, 3) := by decide +kernel
set_option maxRecDepth 100000 in
theorem d_L_law_662 : decode code 662 = .ok (.iconst 0, 1) := by decide +kernel
set_option maxRecDepth 100000 in
theorem d_L_law_663 : decode code 663 = .ok (.ireturn, 1) := by decide +kernel
set_option maxRecDepth 100000 in
theorem d_L_law_664 : decode code 664 = .ok (.iload 5, 2) := by decide +kernel
set_option maxRecDepth 100000 in
theorem d_L_law_666 : decode code 666 = .ok (.ifCond .ne 15, 3) := by decide +kernel
set_option maxRecDepth 100000 in
theorem d_L_law_669 : decode code 669 = .ok (.aload_n 3, 1) := by decide +kernel
set_option maxRecDepth 100000 in
theorem d_L_law_670 : decode code 670 = .ok (.iconst 0, 1) := by decide +kernel
set_option maxRecDepth 100000 in
theorem d_L_law_671 : decode code 671 = .ok (.laload, 1) := by decide +kernel
set_option maxRecDepth 100000 in
theorem d_L_law_672 : decode code 672 = .ok (.iload 6, 2) := by decide +kernel
set_option maxRecDepth 100000 in
theorem d_L_law_674 : decode code 674 = .ok (.i2l, 1) := by decide +kernel
set_option maxRecDepth 100000 in
theorem d_L_law_675 : decode code 675 = .ok (.lcmp, 1) := by decide +kernel
set_option maxRecDepth 100000 in
theorem d_L_law_676 : decode code 676 = .ok (.ifCond .eq 5, 3) := by decide +kernel
set_option maxRecDepth 100000 in
theorem d_L_law_679 : decode code 679 = .ok (.iconst 0, 1) := by decide +kernel
set_option maxRecDepth 100000 in
theorem d_L_law_680 : decode code 680 = .ok (.ireturn, 1) := by decide +kernel
set_option maxRecDepth 100000 in
theorem d_L_law_681 : decode code 681 = .ok (.goto 568, 3) := by decide +kernel
set_option maxRecDepth 100000 in
theorem d_L_law_684 : decode code 684 = .ok (.aload_n 1, 1) := by decide +kernel
set_option maxRecDepth 100000 in
theorem d_L_law_685 : decode code 685 = .ok (.aload_n 0, 1) := by decide +kernel
set_option maxRecDepth 100000 in
theorem d_L_law_686 : decode code 686 = .ok (.iload 4, 2) := by decide +kernel
set_option maxRecDepth 100000 in
theorem d_L_law_688 : decode code 688 = .ok (.iconst 1, 1) := by decide +kernel
set_option maxRecDepth 100000 in
theorem d_L_law_689 : decode code 689 = .ok (.iadd, 1) := by decide +kernel
set_option maxRecDepth 100000 in
theorem d_L_law_690 : decode code 690 = .ok (.iaload, 1) := by decide +kernel
set_option maxRecDepth 100000 in
theorem d_L_law_691 : decode code 691 = .ok (.aload_n 0, 1) := by decide +kernel
set_option maxRecDepth 100000 in
theorem d_L_law_692 : decode code 692 = .ok (.iload 4, 2) := by decide +kernel
set_option maxRecDepth 100000 in
theorem d_L_law_694 : decode code 694 = .ok (.iconst 2, 1) := by decide +kernel
set_option maxRecDepth 100000 in
theorem d_L_law_695 : decode code 695 = .ok (.iadd, 1) := by decide +kernel
set_option maxRecDepth 100000 in
theorem d_L_law_696 : decode code 696 = .ok (.iaload, 1) := by decide +kernel
set_option maxRecDepth 100000 in
theorem d_L_law_697 : decode code 697 = .ok (.aload_n 3, 1) := by decide +kernel
set_option maxRecDepth 100000 in
theorem d_L_law_698 : decode code 698 = .ok (.invokestatic 122, 3) := by decide +kernel
set_option maxRecDepth 100000 in
theorem d_L_law_701 : decode code 701 = .ok (.istore 5, 2) := by decide +kernel
set_option maxRecDepth 100000 in
theorem d_L_law_703 : decode code 703 = .ok (.aload_n 2, 1) := by decide +kernel
set_option maxRecDepth 100000 in
theorem d_L_law_704 : decode code 704 = .ok (.aload_n 0, 1) := by decide +kernel
set_option maxRecDepth 100000 in
theorem d_L_law_705 : decode code 705 = .ok (.iload 4, 2) := by decide +kernel
set_option maxRecDepth 100000 in
theorem d_L_law_707 : decode code 707 = .ok (.iconst 1, 1) := by decide +kernel
set_option maxRecDepth 100000 in
theorem d_L_law_708 : decode code 708 = .ok (.iadd, 1) := by decide +kernel
set_option maxRecDepth 100000 in
theorem d_L_law_709 : decode code 709 = .ok (.iaload, 1) := by decide +kernel
set_option maxRecDepth 100000 in
theorem d_L_law_710 : decode code 710 = .ok (.aload_n 0, 1) := by decide +kernel
set_option maxRecDepth 100000 in
theorem d_L_law_711 : decode code 711 = .ok (.iload 4, 2) := by decide +kernel
set_option maxRecDepth 100000 in
theorem d_L_law_713 : decode code 713 = .ok (.iconst 2, 1) := by decide +kernel
set_option maxRecDepth 100000 in
theorem d_L_law_714 : decode code 714 = .ok (.iadd, 1) := by decide +kernel
set_option maxRecDepth 100000 in
theorem d_L_law_715 : decode code 715 = .ok (.iaload, 1) := by decide +kernel
set_option maxRecDepth 100000 in
theorem d_L_law_716 : decode code 716 = .ok (.invokevirtual 124, 3) := by decide +kernel
set_option maxRecDepth 100000 in
theorem d_L_law_719 : decode code 719 = .ok (.istore 6, 2) := by decide +kernel
set_option maxRecDepth 100000 in
theorem d_L_law_721 : decode code 721 = .ok (.aload_n 2, 1) := by decide +kernel
set_option maxRecDepth 100000 in
theorem d_L_law_722 : decode code 722 = .ok (.invokevirtual 91, 3) := by decide +kernel
set_option maxRecDepth 100000 in
theorem d_L_law_725 : decode code 725 = .ok (.iload 5, 2) := by decide +kernel
set_option maxRecDepth 100000 in
theorem d_L_law_727 : decode code 727 = .ok (.if_icmp .eq 5, 3) := by decide +kernel
set_option maxRecDepth 100000 in
theorem d_L_law_730 : decode code 730 = .ok (.iconst 0, 1) := by decide +kernel
set_option maxRecDepth 100000 in
theorem d_L_law_731 : decode code 731 = .ok (.ireturn, 1) := by decide +kernel
set_option maxRecDepth 100000 in
theorem d_L_law_732 : decode code 732 = .ok (.iload 5, 2) := by decide +kernel
set_option maxRecDepth 100000 in
theorem d_L_law_734 : decode code 734 = .ok (.ifCond .ne 15, 3) := by decide +kernel
set_option maxRecDepth 100000 in
theorem d_L_law_737 : decode code 737 = .ok (.aload_n 3, 1) := by decide +kernel
set_option maxRecDepth 100000 in
theorem d_L_law_738 : decode code 738 = .ok (.iconst 0, 1) := by decide +kernel
set_option maxRecDepth 100000 in
theorem d_L_law_739 : decode code 739 = .ok (.laload, 1) := by decide +kernel
set_option maxRecDepth 100000 in
theorem d_L_law_740 : decode code 740 = .ok (.iload 6, 2) := by decide +kernel
set_option maxRecDepth 100000 in
theorem d_L_law_742 : decode code 742 = .ok (.i2l, 1) := by decide +kernel
set_option maxRecDepth 100000 in
theorem d_L_law_743 : decode code 743 = .ok (.lcmp, 1) := by decide +kernel
set_option maxRecDepth 100000 in
theorem d_L_law_744 : decode code 744 = .ok (.ifCond .eq 5, 3) := by decide +kernel
set_option maxRecDepth 100000 in
theorem d_L_law_747 : decode code 747 = .ok (.iconst 0, 1) := by decide +kernel
set_option maxRecDepth 100000 in
theorem d_L_law_748 : decode code 748 = .ok (.ireturn, 1) := by decide +kernel
set_option maxRecDepth 100000 in
theorem d_L_law_749 : decode code 749 = .ok (.goto 500, 3) := by decide +kernel
set_option maxRecDepth 100000 in
theorem d_L_law_752 : decode code 752 = .ok (.aload_n 1, 1) := by decide +kernel
set_option maxRecDepth 100000 in
theorem d_L_law_753 : decode code 753 = .ok (.aload_n 0, 1) := by decide +kernel
set_option maxRecDepth 100000 in
theorem d_L_law_754 : decode code 754 = .ok (.iload 4, 2) := by decide +kernel
set_option maxRecDepth 100000 in
theorem d_L_law_756 : decode code 756 = .ok (.iconst 1, 1) := by decide +kernel
set_option maxRecDepth 100000 in
theorem d_L_law_757 : decode code 757 = .ok (.iadd, 1) := by decide +kernel
set_option maxRecDepth 100000 in
theorem d_L_law_758 : decode code 758 = .ok (.iaload, 1) := by decide +kernel
set_option maxRecDepth 100000 in
theorem d_L_law_759 : decode code 759 = .ok (.aload_n 0, 1) := by decide +kernel
set_option maxRecDepth 100000 in
theorem d_L_law_760 : decode code 760 = .ok (.iload 4, 2) := by decide +kernel
set_option maxRecDepth 100000 in
theorem d_L_law_762 : decode code 762 = .ok (.iconst 2, 1) := by decide +kernel
set_option maxRecDepth 100000 in
theorem d_L_law_763 : decode code 763 = .ok (.iadd, 1) := by decide +kernel
set_option maxRecDepth 100000 in
theorem d_L_law_764 : decode code 764 = .ok (.iaload, 1) := by decide +kernel
set_option maxRecDepth 100000 in
theorem d_L_law_765 : decode code 765 = .ok (.aload_n 3, 1) := by decide +kernel
set_option maxRecDepth 100000 in
theorem d_L_law_766 : decode code 766 = .ok (.invokestatic 125, 3) := by decide +kernel
set_option maxRecDepth 100000 in
theorem d_L_law_769 : decode code 769 = .ok (.istore 5, 2) := by decide +kernel
set_option maxRecDepth 100000 in
theorem d_L_law_771 : decode code 771 = .ok (.aload_n 2, 1) := by decide +kernel
set_option maxRecDepth 100000 in
theorem d_L_law_772 : decode code 772 = .ok (.aload_n 0, 1) := by decide +kernel
set_option maxRecDepth 100000 in
theorem d_L_law_773 : decode code 773 = .ok (.iload 4, 2) := by decide +kernel
set_option maxRecDepth 100000 in
theorem d_L_law_775 : decode code 775 = .ok (.iconst 1, 1) := by decide +kernel
set_option maxRecDepth 100000 in
theorem d_L_law_776 : decode code 776 = .ok (.iadd, 1) := by decide +kernel
set_option maxRecDepth 100000 in
theorem d_L_law_777 : decode code 777 = .ok (.iaload, 1) := by decide +kernel
set_option maxRecDepth 100000 in
theorem d_L_law_778 : decode code 778 = .ok (.aload_n 0, 1) := by decide +kernel
set_option maxRecDepth 100000 in
theorem d_L_law_779 : decode code 779 = .ok (.iload 4, 2) := by decide +kernel
set_option maxRecDepth 100000 in
theorem d_L_law_781 : decode code 781 = .ok (.iconst 2, 1) := by decide +kernel
set_option maxRecDepth 100000 in
theorem d_L_law_782 : decode code 782 = .ok (.iadd, 1) := by decide +kernel
set_option maxRecDepth 100000 in
theorem d_L_law_783 : decode code 783 = .ok (.iaload, 1) := by decide +kernel
set_option maxRecDepth 100000 in
theorem d_L_law_784 : decode code 784 = .ok (.invokevirtual 127, 3) := by decide +kernel
set_option maxRecDepth 100000 in
theorem d_L_law_787 : decode code 787 = .ok (.istore 6, 2) := by decide +kernel
set_option maxRecDepth 100000 in
theorem d_L_law_789 : decode code 789 = .ok (.aload_n 2, 1) := by decide +kernel
set_option maxRecDepth 100000 in
theorem d_L_law_790 : decode code 790 = .ok (.invokevirtual 91, 3) := by decide +kernel
set_option maxRecDepth 100000 in
theorem d_L_law_793 : decode code 793 = .ok (.iload 5, 2) := by decide +kernel
set_option maxRecDepth 100000 in
theorem d_L_law_795 : decode code 795 = .ok (.if_icmp .eq 5, 3) := by decide +kernel
set_option maxRecDepth 100000 in
theorem d_L_law_798 : decode code 798 = .ok (.iconst 0, 1) := by decide +kernel
set_option maxRecDepth 100000 in
theorem d_L_law_799 : decode code 799 = .ok (.ireturn, 1) := by decide +kernel
set_option maxRecDepth 100000 in
theorem d_L_law_800 : decode code 800 = .ok (.iload 5, 2) := by decide +kernel
set_option maxRecDepth 100000 in
theorem d_L_law_802 : decode code 802 = .ok (.ifCond .ne 15, 3) := by decide +kernel
set_option maxRecDepth 100000 in
theorem d_L_law_805 : decode code 805 = .ok (.aload_n 3, 1) := by decide +kernel
set_option maxRecDepth 100000 in
theorem d_L_law_806 : decode code 806 = .ok (.iconst 0, 1) := by decide +kernel
set_option maxRecDepth 100000 in
theorem d_L_law_807 : decode code 807 = .ok (.laload, 1) := by decide +kernel
set_option maxRecDepth 100000 in
theorem d_L_law_808 : decode code 808 = .ok (.iload 6, 2) := by decide +kernel
set_option maxRecDepth 100000 in
theorem d_L_law_810 : decode code 810 = .ok (.i2l, 1) := by decide +kernel
set_option maxRecDepth 100000 in
theorem d_L_law_811 : decode code 811 = .ok (.lcmp, 1) := by decide +kernel
set_option maxRecDepth 100000 in
theorem d_L_law_812 : decode code 812 = .ok (.ifCond .eq 5, 3) := by decide +kernel
set_option maxRecDepth 100000 in
theorem d_L_law_815 : decode code 815 = .ok (.iconst 0, 1) := by decide +kernel
set_option maxRecDepth 100000 in
theorem d_L_law_816 : decode code 816 = .ok (.ireturn, 1) := by decide +kernel
set_option maxRecDepth 100000 in
theorem d_L_law_817 : decode code 817 = .ok (.goto 432, 3) := by decide +kernel
set_option maxRecDepth 100000 in
theorem d_L_law_820 : decode code 820 = .ok (.aload_n 1, 1) := by decide +kernel
set_option maxRecDepth 100000 in
theorem d_L_law_821 : decode code 821 = .ok (.aload_n 0, 1) := by decide +kernel
set_option maxRecDepth 100000 in
theorem d_L_law_822 : decode code 822 = .ok (.iload 4, 2) := by decide +kernel
set_option maxRecDepth 100000 in
theorem d_L_law_824 : decode code 824 = .ok (.iconst 1, 1) := by decide +kernel
set_option maxRecDepth 100000 in
theorem d_L_law_825 : decode code 825 = .ok (.iadd, 1) := by decide +kernel
set_option maxRecDepth 100000 in
theorem d_L_law_826 : decode code 826 = .ok (.iaload, 1) := by decide +kernel
set_option maxRecDepth 100000 in
theorem d_L_law_827 : decode code 827 = .ok (.aload_n 0, 1) := by decide +kernel
set_option maxRecDepth 100000 in
theorem d_L_law_828 : decode code 828 = .ok (.iload 4, 2) := by decide +kernel
set_option maxRecDepth 100000 in
theorem d_L_law_830 : decode code 830 = .ok (.iconst 2, 1) := by decide +kernel
set_option maxRecDepth 100000 in
theorem d_L_law_831 : decode code 831 = .ok (.iadd, 1) := by decide +kernel
set_option maxRecDepth 100000 in
theorem d_L_law_832 : decode code 832 = .ok (.iaload, 1) := by decide +kernel
set_option maxRecDepth 100000 in
theorem d_L_law_833 : decode code 833 = .ok (.aload_n 3, 1) := by decide +kernel
set_option maxRecDepth 100000 in
theorem d_L_law_834 : decode code 834 = .ok (.invokestatic 128, 3) := by decide +kernel
set_option maxRecDepth 100000 in
theorem d_L_law_837 : decode code 837 = .ok (.istore 5, 2) := by decide +kernel
set_option maxRecDepth 100000 in
theorem d_L_law_839 : decode code 839 = .ok (.aload_n 2, 1) := by decide +kernel
set_option maxRecDepth 100000 in
theorem d_L_law_840 : decode code 840 = .ok (.aload_n 0, 1) := by decide +kernel
set_option maxRecDepth 100000 in
theorem d_L_law_841 : decode code 841 = .ok (.iload 4, 2) := by decide +kernel
set_option maxRecDepth 100000 in
theorem d_L_law_843 : decode code 843 = .ok (.iconst 1, 1) := by decide +kernel
set_option maxRecDepth 100000 in
theorem d_L_law_844 : decode code 844 = .ok (.iadd, 1) := by decide +kernel
set_option maxRecDepth 100000 in
theorem d_L_law_845 : decode code 845 = .ok (.iaload, 1) := by decide +kernel
set_option maxRecDepth 100000 in
theorem d_L_law_846 : decode code 846 = .ok (.aload_n 0, 1) := by decide +kernel
set_option maxRecDepth 100000 in
theorem d_L_law_847 : decode code 847 = .ok (.iload 4, 2) := by decide +kernel
set_option maxRecDepth 100000 in
theorem d_L_law_849 : decode code 849 = .ok (.iconst 2, 1) := by decide +kernel
set_option maxRecDepth 100000 in
theorem d_L_law_850 : decode code 850 = .ok (.iadd, 1) := by decide +kernel
set_option maxRecDepth 100000 in
theorem d_L_law_851 : decode code 851 = .ok (.iaload, 1) := by decide +kernel
set_option maxRecDepth 100000 in
theorem d_L_law_852 : decode code 852 = .ok (.invokevirtual 130, 3) := by decide +kernel
set_option maxRecDepth 100000 in
theorem d_L_law_855 : decode code 855 = .ok (.istore 6, 2) := by decide +kernel
set_option maxRecDepth 100000 in
theorem d_L_law_857 : decode code 857 = .ok (.aload_n 2, 1) := by decide +kernel
set_option maxRecDepth 100000 in
theorem d_L_law_858 : decode code 858 = .ok (.invokevirtual 91, 3) := by decide +kernel
set_option maxRecDepth 100000 in
theorem d_L_law_861 : decode code 861 = .ok (.iload 5, 2) := by decide +kernel
set_option maxRecDepth 100000 in
theorem d_L_law_863 : decode code 863 = .ok (.if_icmp .eq 5, 3) := by decide +kernel
set_option maxRecDepth 100000 in
theorem d_L_law_866 : decode code 866 = .ok (.iconst 0, 1) := by decide +kernel
set_option maxRecDepth 100000 in
theorem d_L_law_867 : decode code 867 = .ok (.ireturn, 1) := by decide +kernel
set_option maxRecDepth 100000 in
theorem d_L_law_868 : decode code 868 = .ok (.iload 5, 2) := by decide +kernel
set_option maxRecDepth 100000 in
theorem d_L_law_870 : decode code 870 = .ok (.ifCond .ne 15, 3) := by decide +kernel
set_option maxRecDepth 100000 in
theorem d_L_law_873 : decode code 873 = .ok (.aload_n 3, 1) := by decide +kernel
set_option maxRecDepth 100000 in
theorem d_L_law_874 : decode code 874 = .ok (.iconst 0, 1) := by decide +kernel
set_option maxRecDepth 100000 in
theorem d_L_law_875 : decode code 875 = .ok (.laload, 1) := by decide +kernel
set_option maxRecDepth 100000 in
theorem d_L_law_876 : decode code 876 = .ok (.iload 6, 2) := by decide +kernel
set_option maxRecDepth 100000 in
theorem d_L_law_878 : decode code 878 = .ok (.i2l, 1) := by decide +kernel
set_option maxRecDepth 100000 in
theorem d_L_law_879 : decode code 879 = .ok (.lcmp, 1) := by decide +kernel
set_option maxRecDepth 100000 in
theorem d_L_law_880 : decode code 880 = .ok (.ifCond .eq 5, 3) := by decide +kernel
set_option maxRecDepth 100000 in
theorem d_L_law_883 : decode code 883 = .ok (.iconst 0, 1) := by decide +kernel
set_option maxRecDepth 100000 in
theorem d_L_law_884 : decode code 884 = .ok (.ireturn, 1) := by decide +kernel
set_option maxRecDepth 100000 in
theorem d_L_law_885 : decode code 885 = .ok (.goto 364, 3) := by decide +kernel
set_option maxRecDepth 100000 in
theorem d_L_law_888 : decode code 888 = .ok (.aload_n 1, 1) := by decide +kernel
