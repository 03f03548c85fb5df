theorem dl_553 : decode code 553 = .ok (.ireturn, 1) := by decide +kernel
theorem dl_554 : decode code 554 = .ok (.aload_n 1, 1) := by decide +kernel
theorem dl_555 : decode code 555 = .ok (.aload_n 0, 1) := by decide +kernel
theorem dl_556 : decode code 556 = .ok (.iload 4, 2) := by decide +kernel
theorem dl_558 : decode code 558 = .ok (.iconst 1, 1) := by decide +kernel
theorem dl_559 : decode code 559 = .ok (.iadd, 1) := by decide +kernel
theorem dl_560 : decode code 560 = .ok (.iaload, 1) := by decide +kernel
theorem dl_561 : decode code 561 = .ok (.aload_n 0, 1) := by decide +kernel
theorem dl_562 : decode code 562 = .ok (.iload 4, 2) := by decide +kernel
theorem dl_564 : decode code 564 = .ok (.iconst 2, 1) := by decide +kernel
theorem dl_565 : decode code 565 = .ok (.iadd, 1) := by decide +kernel
theorem dl_566 : decode code 566 = .ok (.iaload, 1) := by decide +kernel
theorem dl_567 : decode code 567 = .ok (.aload_n 3, 1) := by decide +kernel
theorem dl_568 : decode code 568 = .ok (.invokestatic 64, 3) := by decide +kernel
theorem dl_571 : decode code 571 = .ok (.istore 5, 2) := by decide +kernel
theorem dl_573 : decode code 573 = .ok (.aload_n 2, 1) := by decide +kernel
theorem dl_574 : decode code 574 = .ok (.aload_n 0, 1) := by decide +kernel
theorem dl_575 : decode code 575 = .ok (.iload 4, 2) := by decide +kernel
theorem dl_577 : decode code 577 = .ok (.iconst 1, 1) := by decide +kernel
theorem dl_578 : decode code 578 = .ok (.iadd, 1) := by decide +kernel
theorem dl_579 : decode code 579 = .ok (.iaload, 1) := by decide +kernel
theorem dl_580 : decode code 580 = .ok (.aload_n 0, 1) := by decide +kernel
theorem dl_581 : decode code 581 = .ok (.iload 4, 2) := by decide +kernel
theorem dl_583 : decode code 583 = .ok (.iconst 2, 1) := by decide +kernel
theorem dl_584 : decode code 584 = .ok (.iadd, 1) := by decide +kernel
theorem dl_585 : decode code 585 = .ok (.iaload, 1) := by decide +kernel
theorem dl_586 : decode code 586 = .ok (.invokevirtual 69, 3) := by decide +kernel
theorem dl_589 : decode code 589 = .ok (.istore 6, 2) := by decide +kernel
theorem dl_591 : decode code 591 = .ok (.aload_n 2, 1) := by decide +kernel
theorem dl_592 : decode code 592 = .ok (.invokevirtual 70, 3) := by decide +kernel
theorem dl_595 : decode code 595 = .ok (.iload 5, 2) := by decide +kernel
theorem dl_597 : decode code 597 = .ok (.if_icmp .eq 5, 3) := by decide +kernel
theorem dl_600 : decode code 600 = .ok (.iconst 0, 1) := by decide +kernel
theorem dl_601 : decode code 601 = .ok (.ireturn, 1) := by decide +kernel
theorem dl_602 : decode code 602 = .ok (.iload 5, 2) := by decide +kernel
theorem dl_604 : decode code 604 = .ok (.ifCond .ne 15, 3) := by decide +kernel
theorem dl_607 : decode code 607 = .ok (.aload_n 3, 1) := by decide +kernel
theorem dl_608 : decode code 608 = .ok (.iconst 0, 1) := by decide +kernel
theorem dl_609 : decode code 609 = .ok (.laload, 1) := by decide +kernel
theorem dl_610 : decode code 610 = .ok (.iload 6, 2) := by decide +kernel
theorem dl_612 : decode code 612 = .ok (.i2l, 1) := by decide +kernel
theorem dl_613 : decode code 613 = .ok (.lcmp, 1) := by decide +kernel
theorem dl_614 : decode code 614 = .ok (.ifCond .eq 5, 3) := by decide +kernel
theorem dl_617 : decode code 617 = .ok (.iconst 0, 1) := by decide +kernel
theorem dl_618 : decode code 618 = .ok (.ireturn, 1) := by decide +kernel
theorem dl_619 : decode code 619 = .ok (.goto 370, 3) := by decide +kernel
theorem dl_622 : decode code 622 = .ok (.aload_n 1, 1) := by decide +kernel
theorem dl_623 : decode code 623 = .ok (.invokevirtual 74, 3) := by decide +kernel
theorem dl_626 : decode code 626 = .ok (.aload_n 2, 1) := by decide +kernel
theorem dl_627 : decode code 627 = .ok (.invokevirtual 77, 3) := by decide +kernel
theorem dl_630 : decode code 630 = .ok (.if_icmp .eq 359, 3) := by decide +kernel
theorem dl_633 : decode code 633 = .ok (.iconst 0, 1) := by decide +kernel
theorem dl_634 : decode code 634 = .ok (.ireturn, 1) := by decide +kernel
theorem dl_635 : decode code 635 = .ok (.aload_n 1, 1) := by decide +kernel
theorem dl_636 : decode code 636 = .ok (.invokevirtual 78, 3) := by decide +kernel
theorem dl_639 : decode code 639 = .ok (.aload_n 2, 1) := by decide +kernel
theorem dl_640 : decode code 640 = .ok (.invokevirtual 81, 3) := by decide +kernel
theorem dl_643 : decode code 643 = .ok (.if_icmp .eq 346, 3) := by decide +kernel
theorem dl_646 : decode code 646 = .ok (.iconst 0, 1) := by decide +kernel
theorem dl_647 : decode code 647 = .ok (.ireturn, 1) := by decide +kernel
theorem dl_648 : decode code 648 = .ok (.aload_n 1, 1) := by decide +kernel
theorem dl_649 : decode code 649 = .ok (.invokevirtual 82, 3) := by decide +kernel
theorem dl_652 : decode code 652 = .ok (.aload_n 2, 1) := by decide +kernel
theorem dl_653 : decode code 653 = .ok (.invokevirtual 85, 3) := by decide +kernel
theorem dl_656 : decode code 656 = .ok (.if_icmp .eq 333, 3) := by decide +kernel
theorem dl_659 : decode code 659 = .ok (.iconst 0, 1) := by decide +kernel
theorem dl_660 : decode code 660 = .ok (.ireturn, 1) := by decide +kernel
theorem dl_661 : decode code 661 = .ok (.aload_n 1, 1) := by decide +kernel
theorem dl_662 : decode code 662 = .ok (.aload_n 0, 1) := by decide +kernel
theorem dl_663 : decode code 663 = .ok (.iload 4, 2) := by decide +kernel
theorem dl_665 : decode code 665 = .ok (.iconst 1, 1) := by decide +kernel
theorem dl_666 : decode code 666 = .ok (.iadd, 1) := by decide +kernel
theorem dl_667 : decode code 667 = .ok (.iaload, 1) := by decide +kernel
theorem dl_668 : decode code 668 = .ok (.aload_n 0, 1) := by decide +kernel
theorem dl_669 : decode code 669 = .ok (.iload 4, 2) := by decide +kernel
theorem dl_671 : decode code 671 = .ok (.iconst 2, 1) := by decide +kernel
theorem dl_672 : decode code 672 = .ok (.iadd, 1) := by decide +kernel
theorem dl_673 : decode code 673 = .ok (.iaload, 1) := by decide +kernel
theorem dl_674 : decode code 674 = .ok (.aload_n 0, 1) := by decide +kernel
theorem dl_675 : decode code 675 = .ok (.iload 4, 2) := by decide +kernel
theorem dl_677 : decode code 677 = .ok (.iconst 3, 1) := by decide +kernel
theorem dl_678 : decode code 678 = .ok (.iadd, 1) := by decide +kernel
theorem dl_679 : decode code 679 = .ok (.iaload, 1) := by decide +kernel
theorem dl_680 : decode code 680 = .ok (.aload_n 0, 1) := by decide +kernel
theorem dl_681 : decode code 681 = .ok (.iload 4, 2) := by decide +kernel
theorem dl_683 : decode code 683 = .ok (.iconst 4, 1) := by decide +kernel
theorem dl_684 : decode code 684 = .ok (.iadd, 1) := by decide +kernel
theorem dl_685 : decode code 685 = .ok (.iaload, 1) := by decide +kernel
theorem dl_686 : decode code 686 = .ok (.ifCond .eq 7, 3) := by decide +kernel
theorem dl_689 : decode code 689 = .ok (.iconst 1, 1) := by decide +kernel
theorem dl_690 : decode code 690 = .ok (.goto 4, 3) := by decide +kernel
theorem dl_693 : decode code 693 = .ok (.iconst 0, 1) := by decide +kernel
theorem dl_694 : decode code 694 = .ok (.invokevirtual 86, 3) := by decide +kernel
theorem dl_697 : decode code 697 = .ok (.aload_n 2, 1) := by decide +kernel
theorem dl_698 : decode code 698 = .ok (.aload_n 0, 1) := by decide +kernel
theorem dl_699 : decode code 699 = .ok (.iload 4, 2) := by decide +kernel
theorem dl_701 : decode code 701 = .ok (.iconst 1, 1) := by decide +kernel
theorem dl_702 : decode code 702 = .ok (.iadd, 1) := by decide +kernel
theorem dl_703 : decode code 703 = .ok (.iaload, 1) := by decide +kernel
theorem dl_704 : decode code 704 = .ok (.aload_n 0, 1) := by decide +kernel
theorem dl_705 : decode code 705 = .ok (.iload 4, 2) := by decide +kernel
theorem dl_707 : decode code 707 = .ok (.iconst 2, 1) := by decide +kernel
theorem dl_708 : decode code 708 = .ok (.iadd, 1) := by decide +kernel
theorem dl_709 : decode code 709 = .ok (.iaload, 1) := by decide +kernel
theorem dl_710 : decode code 710 = .ok (.aload_n 0, 1) := by decide +kernel
theorem dl_711 : decode code 711 = .ok (.iload 4, 2) := by decide +kernel
theorem dl_713 : decode code 713 = .ok (.iconst 3, 1) := by decide +kernel
theorem dl_714 : decode code 714 = .ok (.iadd, 1) := by decide +kernel
theorem dl_715 : decode code 715 = .ok (.iaload, 1) := by decide +kernel
theorem dl_716 : decode code 716 = .ok (.aload_n 0, 1) := by decide +kernel
theorem dl_717 : decode code 717 = .ok (.iload 4, 2) := by decide +kernel
theorem dl_719 : decode code 719 = .ok (.iconst 4, 1) := by decide +kernel
theorem dl_720 : decode code 720 = .ok (.iadd, 1) := by decide +kernel
theorem dl_721 : decode code 721 = .ok (.iaload, 1) := by decide +kernel
theorem dl_722 : decode code 722 = .ok (.ifCond .eq 7, 3) := by decide +kernel
theorem dl_725 : decode code 725 = .ok (.iconst 1, 1) := by decide +kernel
theorem dl_726 : decode code 726 = .ok (.goto 4, 3) := by decide +kernel
theorem dl_729 : decode code 729 = .ok (.iconst 0, 1) := by decide +kernel
theorem dl_730 : decode code 730 = .ok (.invokevirtual 90, 3) := by decide +kernel
theorem dl_733 : decode code 733 = .ok (.if_icmp .eq 256, 3) := by decide +kernel
theorem dl_736 : decode code 736 = .ok (.iconst 0, 1) := by decide +kernel
theorem dl_737 : decode code 737 = .ok (.ireturn, 1) := by decide +kernel
theorem dl_738 : decode code 738 = .ok (.aload_n 1, 1) := by decide +kernel
theorem dl_739 : decode code 739 = .ok (.aload_n 0, 1) := by decide +kernel
theorem dl_740 : decode code 740 = .ok (.iload 4, 2) := by decide +kernel
theorem dl_742 : decode code 742 = .ok (.iconst 1, 1) := by decide +kernel
theorem dl_743 : decode code 743 = .ok (.iadd, 1) := by decide +kernel
theorem dl_744 : decode code 744 = .ok (.iaload, 1) := by decide +kernel
theorem dl_745 : decode code 745 = .ok (.aload_n 0, 1) := by decide +kernel
theorem dl_746 : decode code 746 = .ok (.iload 4, 2) := by decide +kernel
theorem dl_748 : decode code 748 = .ok (.iconst 2, 1) := by decide +kernel
theorem dl_749 : decode code 749 = .ok (.iadd, 1) := by decide +kernel
theorem dl_750 : decode code 750 = .ok (.iaload, 1) := by decide +kernel
theorem dl_751 : decode code 751 = .ok (.invokevirtual 91, 3) := by decide +kernel
theorem dl_754 : decode code 754 = .ok (.aload_n 2, 1) := by decide +kernel
theorem dl_755 : decode code 755 = .ok (.aload_n 0, 1) := by decide +kernel
theorem dl_756 : decode code 756 = .ok (.iload 4, 2) := by decide +kernel
theorem dl_758 : decode code 758 = .ok (.iconst 1, 1) := by decide +kernel
theorem dl_759 : decode code 759 = .ok (.iadd, 1) := by decide +kernel
theorem dl_760 : decode code 760 = .ok (.iaload, 1) := by decide +kernel
theorem dl_761 : decode code 761 = .ok (.aload_n 0, 1) := by decide +kernel
theorem dl_762 : decode code 762 = .ok (.iload 4, 2) := by decide +kernel
theorem dl_764 : decode code 764 = .ok (.iconst 2, 1) := by decide +kernel
theorem dl_765 : decode code 765 = .ok (.iadd, 1) := by decide +kernel
theorem dl_766 : decode code 766 = .ok (.iaload, 1) := by decide +kernel
theorem dl_767 : decode code 767 = .ok (.invokevirtual 94, 3) := by decide +kernel
theorem dl_770 : decode code 770 = .ok (.if_icmp .eq 219, 3) := by decide +kernel
theorem dl_773 : decode code 773 = .ok (.iconst 0, 1) := by decide +kernel
theorem dl_774 : decode code 774 = .ok (.ireturn, 1) := by decide +kernel
theorem dl_775 : decode code 775 = .ok (.aload_n 1, 1) := by decide +kernel
theorem dl_776 : decode code 776 = .ok (.aload_n 0, 1) := by decide +kernel
theorem dl_777 : decode code 777 = .ok (.iload 4, 2) := by decide +kernel
theorem dl_779 : decode code 779 = .ok (.iconst 1, 1) := by decide +kernel
theorem dl_780 : decode code 780 = .ok (.iadd, 1) := by decide +kernel
theorem dl_781 : decode code 781 = .ok (.iaload, 1) := by decide +kernel
theorem dl_782 : decode code 782 = .ok (.aload_n 0, 1) := by decide +kernel
theorem dl_783 : decode code 783 = .ok (.iload 4, 2) := by decide +kernel
theorem dl_785 : decode code 785 = .ok (.iconst 2, 1) := by decide +kernel
theorem dl_786 : decode code 786 = .ok (.iadd, 1) := by decide +kernel
theorem dl_787 : decode code 787 = .ok (.iaload, 1) := by decide +kernel
