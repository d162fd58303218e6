theorem dl_538 : decode code 538 = .ok (.iconst 1, 1) := by decide +kernel
theorem dl_539 : decode code 539 = .ok (.iadd, 1) := by decide +kernel
theorem dl_540 : decode code 540 = .ok (.iaload, 1) := by decide +kernel
theorem dl_541 : decode code 541 = .ok (.aload_n 0, 1) := by decide +kernel
theorem dl_542 : decode code 542 = .ok (.iload_n 3, 1) := by decide +kernel
theorem dl_543 : decode code 543 = .ok (.iconst 2, 1) := by decide +kernel
theorem dl_544 : decode code 544 = .ok (.iadd, 1) := by decide +kernel
theorem dl_545 : decode code 545 = .ok (.iaload, 1) := by decide +kernel
theorem dl_546 : decode code 546 = .ok (.invokevirtual 65, 3) := by decide +kernel
theorem dl_549 : decode code 549 = .ok (.if_icmp .eq 376, 3) := by decide +kernel
theorem dl_552 : decode code 552 = .ok (.iconst 0, 1) := by decide +kernel
theorem dl_553 : decode code 553 = .ok (.ireturn, 1) := by decide +kernel
theorem dl_554 : decode code 554 = .ok (.aload_n 1, 1) := by decide +kernel
theorem dl_555 : decode code 555 = .ok (.aload_n 0, 1) := by decide +kernel
theorem dl_556 : decode code 556 = .ok (.iload_n 3, 1) := by decide +kernel
theorem dl_557 : decode code 557 = .ok (.iconst 1, 1) := by decide +kernel
theorem dl_558 : decode code 558 = .ok (.iadd, 1) := by decide +kernel
theorem dl_559 : decode code 559 = .ok (.iaload, 1) := by decide +kernel
theorem dl_560 : decode code 560 = .ok (.aload_n 0, 1) := by decide +kernel
theorem dl_561 : decode code 561 = .ok (.iload_n 3, 1) := by decide +kernel
theorem dl_562 : decode code 562 = .ok (.iconst 2, 1) := by decide +kernel
theorem dl_563 : decode code 563 = .ok (.iadd, 1) := by decide +kernel
theorem dl_564 : decode code 564 = .ok (.iaload, 1) := by decide +kernel
theorem dl_565 : decode code 565 = .ok (.invokevirtual 66, 3) := by decide +kernel
theorem dl_568 : decode code 568 = .ok (.aload_n 2, 1) := by decide +kernel
theorem dl_569 : decode code 569 = .ok (.aload_n 0, 1) := by decide +kernel
theorem dl_570 : decode code 570 = .ok (.iload_n 3, 1) := by decide +kernel
theorem dl_571 : decode code 571 = .ok (.iconst 1, 1) := by decide +kernel
theorem dl_572 : decode code 572 = .ok (.iadd, 1) := by decide +kernel
theorem dl_573 : decode code 573 = .ok (.iaload, 1) := by decide +kernel
theorem dl_574 : decode code 574 = .ok (.aload_n 0, 1) := by decide +kernel
theorem dl_575 : decode code 575 = .ok (.iload_n 3, 1) := by decide +kernel
theorem dl_576 : decode code 576 = .ok (.iconst 2, 1) := by decide +kernel
theorem dl_577 : decode code 577 = .ok (.iadd, 1) := by decide +kernel
theorem dl_578 : decode code 578 = .ok (.iaload, 1) := by decide +kernel
theorem dl_579 : decode code 579 = .ok (.invokevirtual 69, 3) := by decide +kernel
theorem dl_582 : decode code 582 = .ok (.if_icmp .eq 343, 3) := by decide +kernel
theorem dl_585 : decode code 585 = .ok (.iconst 0, 1) := by decide +kernel
theorem dl_586 : decode code 586 = .ok (.ireturn, 1) := by decide +kernel
theorem dl_587 : decode code 587 = .ok (.aload_n 1, 1) := by decide +kernel
theorem dl_588 : decode code 588 = .ok (.aload_n 0, 1) := by decide +kernel
theorem dl_589 : decode code 589 = .ok (.iload_n 3, 1) := by decide +kernel
theorem dl_590 : decode code 590 = .ok (.iconst 1, 1) := by decide +kernel
theorem dl_591 : decode code 591 = .ok (.iadd, 1) := by decide +kernel
theorem dl_592 : decode code 592 = .ok (.iaload, 1) := by decide +kernel
theorem dl_593 : decode code 593 = .ok (.aload_n 0, 1) := by decide +kernel
theorem dl_594 : decode code 594 = .ok (.iload_n 3, 1) := by decide +kernel
theorem dl_595 : decode code 595 = .ok (.iconst 2, 1) := by decide +kernel
theorem dl_596 : decode code 596 = .ok (.iadd, 1) := by decide +kernel
theorem dl_597 : decode code 597 = .ok (.iaload, 1) := by decide +kernel
theorem dl_598 : decode code 598 = .ok (.aload_n 0, 1) := by decide +kernel
theorem dl_599 : decode code 599 = .ok (.iload_n 3, 1) := by decide +kernel
theorem dl_600 : decode code 600 = .ok (.iconst 3, 1) := by decide +kernel
theorem dl_601 : decode code 601 = .ok (.iadd, 1) := by decide +kernel
theorem dl_602 : decode code 602 = .ok (.iaload, 1) := by decide +kernel
theorem dl_603 : decode code 603 = .ok (.invokevirtual 70, 3) := by decide +kernel
theorem dl_606 : decode code 606 = .ok (.aload_n 2, 1) := by decide +kernel
theorem dl_607 : decode code 607 = .ok (.aload_n 0, 1) := by decide +kernel
theorem dl_608 : decode code 608 = .ok (.iload_n 3, 1) := by decide +kernel
theorem dl_609 : decode code 609 = .ok (.iconst 1, 1) := by decide +kernel
theorem dl_610 : decode code 610 = .ok (.iadd, 1) := by decide +kernel
theorem dl_611 : decode code 611 = .ok (.iaload, 1) := by decide +kernel
theorem dl_612 : decode code 612 = .ok (.aload_n 0, 1) := by decide +kernel
theorem dl_613 : decode code 613 = .ok (.iload_n 3, 1) := by decide +kernel
theorem dl_614 : decode code 614 = .ok (.iconst 2, 1) := by decide +kernel
theorem dl_615 : decode code 615 = .ok (.iadd, 1) := by decide +kernel
theorem dl_616 : decode code 616 = .ok (.iaload, 1) := by decide +kernel
theorem dl_617 : decode code 617 = .ok (.aload_n 0, 1) := by decide +kernel
theorem dl_618 : decode code 618 = .ok (.iload_n 3, 1) := by decide +kernel
theorem dl_619 : decode code 619 = .ok (.iconst 3, 1) := by decide +kernel
theorem dl_620 : decode code 620 = .ok (.iadd, 1) := by decide +kernel
theorem dl_621 : decode code 621 = .ok (.iaload, 1) := by decide +kernel
theorem dl_622 : decode code 622 = .ok (.invokevirtual 74, 3) := by decide +kernel
theorem dl_625 : decode code 625 = .ok (.if_icmp .eq 300, 3) := by decide +kernel
theorem dl_628 : decode code 628 = .ok (.iconst 0, 1) := by decide +kernel
theorem dl_629 : decode code 629 = .ok (.ireturn, 1) := by decide +kernel
theorem dl_630 : decode code 630 = .ok (.aload_n 1, 1) := by decide +kernel
theorem dl_631 : decode code 631 = .ok (.aload_n 0, 1) := by decide +kernel
theorem dl_632 : decode code 632 = .ok (.iload_n 3, 1) := by decide +kernel
theorem dl_633 : decode code 633 = .ok (.iconst 1, 1) := by decide +kernel
theorem dl_634 : decode code 634 = .ok (.iadd, 1) := by decide +kernel
theorem dl_635 : decode code 635 = .ok (.iaload, 1) := by decide +kernel
theorem dl_636 : decode code 636 = .ok (.invokevirtual 75, 3) := by decide +kernel
theorem dl_639 : decode code 639 = .ok (.aload_n 2, 1) := by decide +kernel
theorem dl_640 : decode code 640 = .ok (.aload_n 0, 1) := by decide +kernel
theorem dl_641 : decode code 641 = .ok (.iload_n 3, 1) := by decide +kernel
theorem dl_642 : decode code 642 = .ok (.iconst 1, 1) := by decide +kernel
theorem dl_643 : decode code 643 = .ok (.iadd, 1) := by decide +kernel
theorem dl_644 : decode code 644 = .ok (.iaload, 1) := by decide +kernel
theorem dl_645 : decode code 645 = .ok (.invokevirtual 78, 3) := by decide +kernel
theorem dl_648 : decode code 648 = .ok (.if_icmp .eq 277, 3) := by decide +kernel
theorem dl_651 : decode code 651 = .ok (.iconst 0, 1) := by decide +kernel
theorem dl_652 : decode code 652 = .ok (.ireturn, 1) := by decide +kernel
theorem dl_653 : decode code 653 = .ok (.aload_n 1, 1) := by decide +kernel
theorem dl_654 : decode code 654 = .ok (.invokevirtual 79, 3) := by decide +kernel
theorem dl_657 : decode code 657 = .ok (.aload_n 2, 1) := by decide +kernel
theorem dl_658 : decode code 658 = .ok (.invokevirtual 83, 3) := by decide +kernel
theorem dl_661 : decode code 661 = .ok (.if_icmp .eq 264, 3) := by decide +kernel
theorem dl_664 : decode code 664 = .ok (.iconst 0, 1) := by decide +kernel
theorem dl_665 : decode code 665 = .ok (.ireturn, 1) := by decide +kernel
theorem dl_666 : decode code 666 = .ok (.aload_n 1, 1) := by decide +kernel
theorem dl_667 : decode code 667 = .ok (.invokevirtual 84, 3) := by decide +kernel
theorem dl_670 : decode code 670 = .ok (.aload_n 2, 1) := by decide +kernel
theorem dl_671 : decode code 671 = .ok (.invokevirtual 87, 3) := by decide +kernel
theorem dl_674 : decode code 674 = .ok (.if_icmp .eq 251, 3) := by decide +kernel
theorem dl_677 : decode code 677 = .ok (.iconst 0, 1) := by decide +kernel
theorem dl_678 : decode code 678 = .ok (.ireturn, 1) := by decide +kernel
theorem dl_679 : decode code 679 = .ok (.aload_n 1, 1) := by decide +kernel
theorem dl_680 : decode code 680 = .ok (.invokevirtual 88, 3) := by decide +kernel
theorem dl_683 : decode code 683 = .ok (.aload_n 2, 1) := by decide +kernel
theorem dl_684 : decode code 684 = .ok (.invokevirtual 91, 3) := by decide +kernel
theorem dl_687 : decode code 687 = .ok (.if_icmp .eq 238, 3) := by decide +kernel
theorem dl_690 : decode code 690 = .ok (.iconst 0, 1) := by decide +kernel
theorem dl_691 : decode code 691 = .ok (.ireturn, 1) := by decide +kernel
theorem dl_692 : decode code 692 = .ok (.aload_n 1, 1) := by decide +kernel
theorem dl_693 : decode code 693 = .ok (.aload_n 0, 1) := by decide +kernel
theorem dl_694 : decode code 694 = .ok (.iload_n 3, 1) := by decide +kernel
theorem dl_695 : decode code 695 = .ok (.iconst 1, 1) := by decide +kernel
theorem dl_696 : decode code 696 = .ok (.iadd, 1) := by decide +kernel
theorem dl_697 : decode code 697 = .ok (.iaload, 1) := by decide +kernel
theorem dl_698 : decode code 698 = .ok (.invokevirtual 92, 3) := by decide +kernel
theorem dl_701 : decode code 701 = .ok (.aload_n 2, 1) := by decide +kernel
theorem dl_702 : decode code 702 = .ok (.aload_n 0, 1) := by decide +kernel
theorem dl_703 : decode code 703 = .ok (.iload_n 3, 1) := by decide +kernel
theorem dl_704 : decode code 704 = .ok (.iconst 1, 1) := by decide +kernel
theorem dl_705 : decode code 705 = .ok (.iadd, 1) := by decide +kernel
theorem dl_706 : decode code 706 = .ok (.iaload, 1) := by decide +kernel
theorem dl_707 : decode code 707 = .ok (.invokevirtual 95, 3) := by decide +kernel
theorem dl_710 : decode code 710 = .ok (.if_icmp .eq 215, 3) := by decide +kernel
theorem dl_713 : decode code 713 = .ok (.iconst 0, 1) := by decide +kernel
theorem dl_714 : decode code 714 = .ok (.ireturn, 1) := by decide +kernel
theorem dl_715 : decode code 715 = .ok (.aload_n 1, 1) := by decide +kernel
theorem dl_716 : decode code 716 = .ok (.aload_n 0, 1) := by decide +kernel
theorem dl_717 : decode code 717 = .ok (.iload_n 3, 1) := by decide +kernel
theorem dl_718 : decode code 718 = .ok (.iconst 1, 1) := by decide +kernel
theorem dl_719 : decode code 719 = .ok (.iadd, 1) := by decide +kernel
theorem dl_720 : decode code 720 = .ok (.iaload, 1) := by decide +kernel
theorem dl_721 : decode code 721 = .ok (.invokevirtual 96, 3) := by decide +kernel
theorem dl_724 : decode code 724 = .ok (.aload_n 2, 1) := by decide +kernel
theorem dl_725 : decode code 725 = .ok (.aload_n 0, 1) := by decide +kernel
theorem dl_726 : decode code 726 = .ok (.iload_n 3, 1) := by decide +kernel
theorem dl_727 : decode code 727 = .ok (.iconst 1, 1) := by decide +kernel
theorem dl_728 : decode code 728 = .ok (.iadd, 1) := by decide +kernel
theorem dl_729 : decode code 729 = .ok (.iaload, 1) := by decide +kernel
theorem dl_730 : decode code 730 = .ok (.invokevirtual 99, 3) := by decide +kernel
theorem dl_733 : decode code 733 = .ok (.if_icmp .eq 192, 3) := by decide +kernel
theorem dl_736 : decode code 736 = .ok (.iconst 0, 1) := by decide +kernel
theorem dl_737 : decode code 737 = .ok (.ireturn, 1) := by decide +kernel
theorem dl_738 : decode code 738 = .ok (.aload_n 1, 1) := by decide +kernel
theorem dl_739 : decode code 739 = .ok (.aload_n 0, 1) := by decide +kernel
theorem dl_740 : decode code 740 = .ok (.iload_n 3, 1) := by decide +kernel
theorem dl_741 : decode code 741 = .ok (.iconst 1, 1) := by decide +kernel
theorem dl_742 : decode code 742 = .ok (.iadd, 1) := by decide +kernel
theorem dl_743 : decode code 743 = .ok (.iaload, 1) := by decide +kernel
theorem dl_744 : decode code 744 = .ok (.invokevirtual 100, 3) := by decide +kernel
theorem dl_747 : decode code 747 = .ok (.aload_n 2, 1) := by decide +kernel
theorem dl_748 : decode code 748 = .ok (.aload_n 0, 1) := by decide +kernel
theorem dl_749 : decode code 749 = .ok (.iload_n 3, 1) := by decide +kernel
theorem dl_750 : decode code 750 = .ok (.iconst 1, 1) := by decide +kernel
theorem dl_751 : decode code 751 = .ok (.iadd, 1) := by decide +kernel
