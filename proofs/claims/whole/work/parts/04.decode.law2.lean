theorem d_law_545 : decode code 545 = .ok (.if_icmp .eq 5, 3) := by decide +kernel
theorem d_law_548 : decode code 548 = .ok (.iconst 0, 1) := by decide +kernel
theorem d_law_549 : decode code 549 = .ok (.ireturn, 1) := by decide +kernel
theorem d_law_550 : decode code 550 = .ok (.iload 5, 2) := by decide +kernel
theorem d_law_552 : decode code 552 = .ok (.ifCond .ne 15, 3) := by decide +kernel
theorem d_law_555 : decode code 555 = .ok (.aload_n 3, 1) := by decide +kernel
theorem d_law_556 : decode code 556 = .ok (.iconst 0, 1) := by decide +kernel
theorem d_law_557 : decode code 557 = .ok (.laload, 1) := by decide +kernel
theorem d_law_558 : decode code 558 = .ok (.iload 6, 2) := by decide +kernel
theorem d_law_560 : decode code 560 = .ok (.i2l, 1) := by decide +kernel
theorem d_law_561 : decode code 561 = .ok (.lcmp, 1) := by decide +kernel
theorem d_law_562 : decode code 562 = .ok (.ifCond .eq 5, 3) := by decide +kernel
theorem d_law_565 : decode code 565 = .ok (.iconst 0, 1) := by decide +kernel
theorem d_law_566 : decode code 566 = .ok (.ireturn, 1) := by decide +kernel
theorem d_law_567 : decode code 567 = .ok (.goto 420, 3) := by decide +kernel
theorem d_law_570 : decode code 570 = .ok (.aload_n 1, 1) := by decide +kernel
theorem d_law_571 : decode code 571 = .ok (.aload_n 0, 1) := by decide +kernel
theorem d_law_572 : decode code 572 = .ok (.iload 4, 2) := by decide +kernel
theorem d_law_574 : decode code 574 = .ok (.iconst 1, 1) := by decide +kernel
theorem d_law_575 : decode code 575 = .ok (.iadd, 1) := by decide +kernel
theorem d_law_576 : decode code 576 = .ok (.iaload, 1) := by decide +kernel
theorem d_law_577 : decode code 577 = .ok (.aload_n 3, 1) := by decide +kernel
theorem d_law_578 : decode code 578 = .ok (.invokestatic 94, 3) := by decide +kernel
theorem d_law_581 : decode code 581 = .ok (.istore 5, 2) := by decide +kernel
theorem d_law_583 : decode code 583 = .ok (.aload_n 2, 1) := by decide +kernel
theorem d_law_584 : decode code 584 = .ok (.aload_n 0, 1) := by decide +kernel
theorem d_law_585 : decode code 585 = .ok (.iload 4, 2) := by decide +kernel
theorem d_law_587 : decode code 587 = .ok (.iconst 1, 1) := by decide +kernel
theorem d_law_588 : decode code 588 = .ok (.iadd, 1) := by decide +kernel
theorem d_law_589 : decode code 589 = .ok (.iaload, 1) := by decide +kernel
theorem d_law_590 : decode code 590 = .ok (.invokevirtual 97, 3) := by decide +kernel
theorem d_law_593 : decode code 593 = .ok (.istore 6, 2) := by decide +kernel
theorem d_law_595 : decode code 595 = .ok (.aload_n 2, 1) := by decide +kernel
theorem d_law_596 : decode code 596 = .ok (.invokevirtual 72, 3) := by decide +kernel
theorem d_law_599 : decode code 599 = .ok (.iload 5, 2) := by decide +kernel
theorem d_law_601 : decode code 601 = .ok (.if_icmp .eq 5, 3) := by decide +kernel
theorem d_law_604 : decode code 604 = .ok (.iconst 0, 1) := by decide +kernel
theorem d_law_605 : decode code 605 = .ok (.ireturn, 1) := by decide +kernel
theorem d_law_606 : decode code 606 = .ok (.iload 5, 2) := by decide +kernel
theorem d_law_608 : decode code 608 = .ok (.ifCond .ne 15, 3) := by decide +kernel
theorem d_law_611 : decode code 611 = .ok (.aload_n 3, 1) := by decide +kernel
theorem d_law_612 : decode code 612 = .ok (.iconst 0, 1) := by decide +kernel
theorem d_law_613 : decode code 613 = .ok (.laload, 1) := by decide +kernel
theorem d_law_614 : decode code 614 = .ok (.iload 6, 2) := by decide +kernel
theorem d_law_616 : decode code 616 = .ok (.i2l, 1) := by decide +kernel
theorem d_law_617 : decode code 617 = .ok (.lcmp, 1) := by decide +kernel
theorem d_law_618 : decode code 618 = .ok (.ifCond .eq 5, 3) := by decide +kernel
theorem d_law_621 : decode code 621 = .ok (.iconst 0, 1) := by decide +kernel
theorem d_law_622 : decode code 622 = .ok (.ireturn, 1) := by decide +kernel
theorem d_law_623 : decode code 623 = .ok (.goto 364, 3) := by decide +kernel
theorem d_law_626 : decode code 626 = .ok (.aload_n 1, 1) := by decide +kernel
theorem d_law_627 : decode code 627 = .ok (.aload_n 0, 1) := by decide +kernel
theorem d_law_628 : decode code 628 = .ok (.iload 4, 2) := by decide +kernel
theorem d_law_630 : decode code 630 = .ok (.iconst 1, 1) := by decide +kernel
theorem d_law_631 : decode code 631 = .ok (.iadd, 1) := by decide +kernel
theorem d_law_632 : decode code 632 = .ok (.iaload, 1) := by decide +kernel
theorem d_law_633 : decode code 633 = .ok (.aload_n 0, 1) := by decide +kernel
theorem d_law_634 : decode code 634 = .ok (.iload 4, 2) := by decide +kernel
theorem d_law_636 : decode code 636 = .ok (.iconst 2, 1) := by decide +kernel
theorem d_law_637 : decode code 637 = .ok (.iadd, 1) := by decide +kernel
theorem d_law_638 : decode code 638 = .ok (.iaload, 1) := by decide +kernel
theorem d_law_639 : decode code 639 = .ok (.aload_n 3, 1) := by decide +kernel
theorem d_law_640 : decode code 640 = .ok (.invokestatic 98, 3) := by decide +kernel
theorem d_law_643 : decode code 643 = .ok (.istore 5, 2) := by decide +kernel
theorem d_law_645 : decode code 645 = .ok (.aload_n 2, 1) := by decide +kernel
theorem d_law_646 : decode code 646 = .ok (.aload_n 0, 1) := by decide +kernel
theorem d_law_647 : decode code 647 = .ok (.iload 4, 2) := by decide +kernel
theorem d_law_649 : decode code 649 = .ok (.iconst 1, 1) := by decide +kernel
theorem d_law_650 : decode code 650 = .ok (.iadd, 1) := by decide +kernel
theorem d_law_651 : decode code 651 = .ok (.iaload, 1) := by decide +kernel
theorem d_law_652 : decode code 652 = .ok (.aload_n 0, 1) := by decide +kernel
theorem d_law_653 : decode code 653 = .ok (.iload 4, 2) := by decide +kernel
theorem d_law_655 : decode code 655 = .ok (.iconst 2, 1) := by decide +kernel
theorem d_law_656 : decode code 656 = .ok (.iadd, 1) := by decide +kernel
theorem d_law_657 : decode code 657 = .ok (.iaload, 1) := by decide +kernel
theorem d_law_658 : decode code 658 = .ok (.invokevirtual 100, 3) := by decide +kernel
theorem d_law_661 : decode code 661 = .ok (.istore 6, 2) := by decide +kernel
theorem d_law_663 : decode code 663 = .ok (.aload_n 2, 1) := by decide +kernel
theorem d_law_664 : decode code 664 = .ok (.invokevirtual 72, 3) := by decide +kernel
theorem d_law_667 : decode code 667 = .ok (.iload 5, 2) := by decide +kernel
theorem d_law_669 : decode code 669 = .ok (.if_icmp .eq 5, 3) := by decide +kernel
theorem d_law_672 : decode code 672 = .ok (.iconst 0, 1) := by decide +kernel
theorem d_law_673 : decode code 673 = .ok (.ireturn, 1) := by decide +kernel
theorem d_law_674 : decode code 674 = .ok (.iload 5, 2) := by decide +kernel
theorem d_law_676 : decode code 676 = .ok (.ifCond .ne 15, 3) := by decide +kernel
theorem d_law_679 : decode code 679 = .ok (.aload_n 3, 1) := by decide +kernel
theorem d_law_680 : decode code 680 = .ok (.iconst 0, 1) := by decide +kernel
theorem d_law_681 : decode code 681 = .ok (.laload, 1) := by decide +kernel
theorem d_law_682 : decode code 682 = .ok (.iload 6, 2) := by decide +kernel
theorem d_law_684 : decode code 684 = .ok (.i2l, 1) := by decide +kernel
theorem d_law_685 : decode code 685 = .ok (.lcmp, 1) := by decide +kernel
theorem d_law_686 : decode code 686 = .ok (.ifCond .eq 5, 3) := by decide +kernel
theorem d_law_689 : decode code 689 = .ok (.iconst 0, 1) := by decide +kernel
theorem d_law_690 : decode code 690 = .ok (.ireturn, 1) := by decide +kernel
theorem d_law_691 : decode code 691 = .ok (.goto 296, 3) := by decide +kernel
theorem d_law_694 : decode code 694 = .ok (.aload_n 1, 1) := by decide +kernel
theorem d_law_695 : decode code 695 = .ok (.aload_n 0, 1) := by decide +kernel
theorem d_law_696 : decode code 696 = .ok (.iload 4, 2) := by decide +kernel
theorem d_law_698 : decode code 698 = .ok (.iconst 1, 1) := by decide +kernel
theorem d_law_699 : decode code 699 = .ok (.iadd, 1) := by decide +kernel
theorem d_law_700 : decode code 700 = .ok (.iaload, 1) := by decide +kernel
theorem d_law_701 : decode code 701 = .ok (.aload_n 3, 1) := by decide +kernel
theorem d_law_702 : decode code 702 = .ok (.invokestatic 101, 3) := by decide +kernel
theorem d_law_705 : decode code 705 = .ok (.istore 5, 2) := by decide +kernel
theorem d_law_707 : decode code 707 = .ok (.aload_n 2, 1) := by decide +kernel
theorem d_law_708 : decode code 708 = .ok (.aload_n 0, 1) := by decide +kernel
theorem d_law_709 : decode code 709 = .ok (.iload 4, 2) := by decide +kernel
theorem d_law_711 : decode code 711 = .ok (.iconst 1, 1) := by decide +kernel
theorem d_law_712 : decode code 712 = .ok (.iadd, 1) := by decide +kernel
theorem d_law_713 : decode code 713 = .ok (.iaload, 1) := by decide +kernel
theorem d_law_714 : decode code 714 = .ok (.invokevirtual 103, 3) := by decide +kernel
theorem d_law_717 : decode code 717 = .ok (.istore 6, 2) := by decide +kernel
theorem d_law_719 : decode code 719 = .ok (.aload_n 2, 1) := by decide +kernel
theorem d_law_720 : decode code 720 = .ok (.invokevirtual 72, 3) := by decide +kernel
theorem d_law_723 : decode code 723 = .ok (.iload 5, 2) := by decide +kernel
theorem d_law_725 : decode code 725 = .ok (.if_icmp .eq 5, 3) := by decide +kernel
theorem d_law_728 : decode code 728 = .ok (.iconst 0, 1) := by decide +kernel
theorem d_law_729 : decode code 729 = .ok (.ireturn, 1) := by decide +kernel
theorem d_law_730 : decode code 730 = .ok (.iload 5, 2) := by decide +kernel
theorem d_law_732 : decode code 732 = .ok (.ifCond .ne 15, 3) := by decide +kernel
theorem d_law_735 : decode code 735 = .ok (.aload_n 3, 1) := by decide +kernel
theorem d_law_736 : decode code 736 = .ok (.iconst 0, 1) := by decide +kernel
theorem d_law_737 : decode code 737 = .ok (.laload, 1) := by decide +kernel
theorem d_law_738 : decode code 738 = .ok (.iload 6, 2) := by decide +kernel
theorem d_law_740 : decode code 740 = .ok (.i2l, 1) := by decide +kernel
theorem d_law_741 : decode code 741 = .ok (.lcmp, 1) := by decide +kernel
theorem d_law_742 : decode code 742 = .ok (.ifCond .eq 5, 3) := by decide +kernel
theorem d_law_745 : decode code 745 = .ok (.iconst 0, 1) := by decide +kernel
theorem d_law_746 : decode code 746 = .ok (.ireturn, 1) := by decide +kernel
theorem d_law_747 : decode code 747 = .ok (.goto 240, 3) := by decide +kernel
theorem d_law_750 : decode code 750 = .ok (.aload_n 1, 1) := by decide +kernel
theorem d_law_751 : decode code 751 = .ok (.aload_n 0, 1) := by decide +kernel
theorem d_law_752 : decode code 752 = .ok (.iload 4, 2) := by decide +kernel
theorem d_law_754 : decode code 754 = .ok (.iconst 1, 1) := by decide +kernel
theorem d_law_755 : decode code 755 = .ok (.iadd, 1) := by decide +kernel
theorem d_law_756 : decode code 756 = .ok (.iaload, 1) := by decide +kernel
theorem d_law_757 : decode code 757 = .ok (.aload_n 3, 1) := by decide +kernel
theorem d_law_758 : decode code 758 = .ok (.invokestatic 104, 3) := by decide +kernel
theorem d_law_761 : decode code 761 = .ok (.istore 5, 2) := by decide +kernel
theorem d_law_763 : decode code 763 = .ok (.aload_n 2, 1) := by decide +kernel
theorem d_law_764 : decode code 764 = .ok (.aload_n 0, 1) := by decide +kernel
theorem d_law_765 : decode code 765 = .ok (.iload 4, 2) := by decide +kernel
theorem d_law_767 : decode code 767 = .ok (.iconst 1, 1) := by decide +kernel
theorem d_law_768 : decode code 768 = .ok (.iadd, 1) := by decide +kernel
theorem d_law_769 : decode code 769 = .ok (.iaload, 1) := by decide +kernel
theorem d_law_770 : decode code 770 = .ok (.invokevirtual 106, 3) := by decide +kernel
theorem d_law_773 : decode code 773 = .ok (.istore 6, 2) := by decide +kernel
theorem d_law_775 : decode code 775 = .ok (.aload_n 2, 1) := by decide +kernel
theorem d_law_776 : decode code 776 = .ok (.invokevirtual 72, 3) := by decide +kernel
theorem d_law_779 : decode code 779 = .ok (.iload 5, 2) := by decide +kernel
theorem d_law_781 : decode code 781 = .ok (.if_icmp .eq 5, 3) := by decide +kernel
theorem d_law_784 : decode code 784 = .ok (.iconst 0, 1) := by decide +kernel
theorem d_law_785 : decode code 785 = .ok (.ireturn, 1) := by decide +kernel
theorem d_law_786 : decode code 786 = .ok (.iload 5, 2) := by decide +kernel
theorem d_law_788 : decode code 788 = .ok (.ifCond .ne 15, 3) := by decide +kernel
theorem d_law_791 : decode code 791 = .ok (.aload_n 3, 1) := by decide +kernel
theorem d_law_792 : decode code 792 = .ok (.iconst 0, 1) := by decide +kernel
theorem d_law_793 : decode code 793 = .ok (.laload, 1) := by decide +kernel
theorem d_law_794 : decode code 794 = .ok (.iload 6, 2) := by decide +kernel
theorem d_law_796 : decode code 796 = .ok (.i2l, 1) := by decide +kernel
