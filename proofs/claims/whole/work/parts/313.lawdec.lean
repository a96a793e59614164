theorem jd_law_598 : decode code 598 = .ok (.invokevirtual 80, 3) := by decide +kernel
theorem jd_law_601 : decode code 601 = .ok (.if_icmp .eq 427, 3) := by decide +kernel
theorem jd_law_604 : decode code 604 = .ok (.iconst 0, 1) := by decide +kernel
theorem jd_law_605 : decode code 605 = .ok (.ireturn, 1) := by decide +kernel
theorem jd_law_606 : decode code 606 = .ok (.aload_n 1, 1) := by decide +kernel
theorem jd_law_607 : decode code 607 = .ok (.aload_n 0, 1) := by decide +kernel
theorem jd_law_608 : decode code 608 = .ok (.iload_n 3, 1) := by decide +kernel
theorem jd_law_609 : decode code 609 = .ok (.iconst 1, 1) := by decide +kernel
theorem jd_law_610 : decode code 610 = .ok (.iadd, 1) := by decide +kernel
theorem jd_law_611 : decode code 611 = .ok (.iaload, 1) := by decide +kernel
theorem jd_law_612 : decode code 612 = .ok (.aload_n 0, 1) := by decide +kernel
theorem jd_law_613 : decode code 613 = .ok (.iload_n 3, 1) := by decide +kernel
theorem jd_law_614 : decode code 614 = .ok (.iconst 2, 1) := by decide +kernel
theorem jd_law_615 : decode code 615 = .ok (.iadd, 1) := by decide +kernel
theorem jd_law_616 : decode code 616 = .ok (.iaload, 1) := by decide +kernel
theorem jd_law_617 : decode code 617 = .ok (.aload_n 0, 1) := by decide +kernel
theorem jd_law_618 : decode code 618 = .ok (.iload_n 3, 1) := by decide +kernel
theorem jd_law_619 : decode code 619 = .ok (.iconst 3, 1) := by decide +kernel
theorem jd_law_620 : decode code 620 = .ok (.iadd, 1) := by decide +kernel
theorem jd_law_621 : decode code 621 = .ok (.iaload, 1) := by decide +kernel
theorem jd_law_622 : decode code 622 = .ok (.invokevirtual 81, 3) := by decide +kernel
theorem jd_law_625 : decode code 625 = .ok (.aload_n 2, 1) := by decide +kernel
theorem jd_law_626 : decode code 626 = .ok (.aload_n 0, 1) := by decide +kernel
theorem jd_law_627 : decode code 627 = .ok (.iload_n 3, 1) := by decide +kernel
theorem jd_law_628 : decode code 628 = .ok (.iconst 1, 1) := by decide +kernel
theorem jd_law_629 : decode code 629 = .ok (.iadd, 1) := by decide +kernel
theorem jd_law_630 : decode code 630 = .ok (.iaload, 1) := by decide +kernel
theorem jd_law_631 : decode code 631 = .ok (.aload_n 0, 1) := by decide +kernel
theorem jd_law_632 : decode code 632 = .ok (.iload_n 3, 1) := by decide +kernel
theorem jd_law_633 : decode code 633 = .ok (.iconst 2, 1) := by decide +kernel
theorem jd_law_634 : decode code 634 = .ok (.iadd, 1) := by decide +kernel
theorem jd_law_635 : decode code 635 = .ok (.iaload, 1) := by decide +kernel
theorem jd_law_636 : decode code 636 = .ok (.aload_n 0, 1) := by decide +kernel
theorem jd_law_637 : decode code 637 = .ok (.iload_n 3, 1) := by decide +kernel
theorem jd_law_638 : decode code 638 = .ok (.iconst 3, 1) := by decide +kernel
theorem jd_law_639 : decode code 639 = .ok (.iadd, 1) := by decide +kernel
theorem jd_law_640 : decode code 640 = .ok (.iaload, 1) := by decide +kernel
theorem jd_law_641 : decode code 641 = .ok (.invokevirtual 84, 3) := by decide +kernel
theorem jd_law_644 : decode code 644 = .ok (.if_icmp .eq 384, 3) := by decide +kernel
theorem jd_law_647 : decode code 647 = .ok (.iconst 0, 1) := by decide +kernel
theorem jd_law_648 : decode code 648 = .ok (.ireturn, 1) := by decide +kernel
theorem jd_law_649 : decode code 649 = .ok (.aload_n 1, 1) := by decide +kernel
theorem jd_law_650 : decode code 650 = .ok (.aload_n 0, 1) := by decide +kernel
theorem jd_law_651 : decode code 651 = .ok (.iload_n 3, 1) := by decide +kernel
theorem jd_law_652 : decode code 652 = .ok (.iconst 1, 1) := by decide +kernel
theorem jd_law_653 : decode code 653 = .ok (.iadd, 1) := by decide +kernel
theorem jd_law_654 : decode code 654 = .ok (.iaload, 1) := by decide +kernel
theorem jd_law_655 : decode code 655 = .ok (.invokevirtual 85, 3) := by decide +kernel
theorem jd_law_658 : decode code 658 = .ok (.aload_n 2, 1) := by decide +kernel
theorem jd_law_659 : decode code 659 = .ok (.aload_n 0, 1) := by decide +kernel
theorem jd_law_660 : decode code 660 = .ok (.iload_n 3, 1) := by decide +kernel
theorem jd_law_661 : decode code 661 = .ok (.iconst 1, 1) := by decide +kernel
theorem jd_law_662 : decode code 662 = .ok (.iadd, 1) := by decide +kernel
theorem jd_law_663 : decode code 663 = .ok (.iaload, 1) := by decide +kernel
theorem jd_law_664 : decode code 664 = .ok (.invokevirtual 88, 3) := by decide +kernel
theorem jd_law_667 : decode code 667 = .ok (.if_icmp .eq 361, 3) := by decide +kernel
theorem jd_law_670 : decode code 670 = .ok (.iconst 0, 1) := by decide +kernel
theorem jd_law_671 : decode code 671 = .ok (.ireturn, 1) := by decide +kernel
theorem jd_law_672 : decode code 672 = .ok (.aload_n 1, 1) := by decide +kernel
theorem jd_law_673 : decode code 673 = .ok (.aload_n 0, 1) := by decide +kernel
theorem jd_law_674 : decode code 674 = .ok (.iload_n 3, 1) := by decide +kernel
theorem jd_law_675 : decode code 675 = .ok (.iconst 1, 1) := by decide +kernel
theorem jd_law_676 : decode code 676 = .ok (.iadd, 1) := by decide +kernel
theorem jd_law_677 : decode code 677 = .ok (.iaload, 1) := by decide +kernel
theorem jd_law_678 : decode code 678 = .ok (.aload_n 0, 1) := by decide +kernel
theorem jd_law_679 : decode code 679 = .ok (.iload_n 3, 1) := by decide +kernel
theorem jd_law_680 : decode code 680 = .ok (.iconst 2, 1) := by decide +kernel
theorem jd_law_681 : decode code 681 = .ok (.iadd, 1) := by decide +kernel
theorem jd_law_682 : decode code 682 = .ok (.iaload, 1) := by decide +kernel
theorem jd_law_683 : decode code 683 = .ok (.invokevirtual 89, 3) := by decide +kernel
theorem jd_law_686 : decode code 686 = .ok (.aload_n 2, 1) := by decide +kernel
theorem jd_law_687 : decode code 687 = .ok (.aload_n 0, 1) := by decide +kernel
theorem jd_law_688 : decode code 688 = .ok (.iload_n 3, 1) := by decide +kernel
theorem jd_law_689 : decode code 689 = .ok (.iconst 1, 1) := by decide +kernel
theorem jd_law_690 : decode code 690 = .ok (.iadd, 1) := by decide +kernel
theorem jd_law_691 : decode code 691 = .ok (.iaload, 1) := by decide +kernel
theorem jd_law_692 : decode code 692 = .ok (.aload_n 0, 1) := by decide +kernel
theorem jd_law_693 : decode code 693 = .ok (.iload_n 3, 1) := by decide +kernel
theorem jd_law_694 : decode code 694 = .ok (.iconst 2, 1) := by decide +kernel
theorem jd_law_695 : decode code 695 = .ok (.iadd, 1) := by decide +kernel
theorem jd_law_696 : decode code 696 = .ok (.iaload, 1) := by decide +kernel
theorem jd_law_697 : decode code 697 = .ok (.invokevirtual 92, 3) := by decide +kernel
theorem jd_law_700 : decode code 700 = .ok (.if_icmp .eq 328, 3) := by decide +kernel
theorem jd_law_703 : decode code 703 = .ok (.iconst 0, 1) := by decide +kernel
theorem jd_law_704 : decode code 704 = .ok (.ireturn, 1) := by decide +kernel
theorem jd_law_705 : decode code 705 = .ok (.aload_n 1, 1) := by decide +kernel
theorem jd_law_706 : decode code 706 = .ok (.aload_n 0, 1) := by decide +kernel
theorem jd_law_707 : decode code 707 = .ok (.iload_n 3, 1) := by decide +kernel
theorem jd_law_708 : decode code 708 = .ok (.iconst 1, 1) := by decide +kernel
theorem jd_law_709 : decode code 709 = .ok (.iadd, 1) := by decide +kernel
theorem jd_law_710 : decode code 710 = .ok (.iaload, 1) := by decide +kernel
theorem jd_law_711 : decode code 711 = .ok (.aload_n 0, 1) := by decide +kernel
theorem jd_law_712 : decode code 712 = .ok (.iload_n 3, 1) := by decide +kernel
theorem jd_law_713 : decode code 713 = .ok (.iconst 2, 1) := by decide +kernel
theorem jd_law_714 : decode code 714 = .ok (.iadd, 1) := by decide +kernel
theorem jd_law_715 : decode code 715 = .ok (.iaload, 1) := by decide +kernel
theorem jd_law_716 : decode code 716 = .ok (.invokevirtual 93, 3) := by decide +kernel
theorem jd_law_719 : decode code 719 = .ok (.aload_n 2, 1) := by decide +kernel
theorem jd_law_720 : decode code 720 = .ok (.aload_n 0, 1) := by decide +kernel
theorem jd_law_721 : decode code 721 = .ok (.iload_n 3, 1) := by decide +kernel
theorem jd_law_722 : decode code 722 = .ok (.iconst 1, 1) := by decide +kernel
theorem jd_law_723 : decode code 723 = .ok (.iadd, 1) := by decide +kernel
theorem jd_law_724 : decode code 724 = .ok (.iaload, 1) := by decide +kernel
theorem jd_law_725 : decode code 725 = .ok (.aload_n 0, 1) := by decide +kernel
theorem jd_law_726 : decode code 726 = .ok (.iload_n 3, 1) := by decide +kernel
theorem jd_law_727 : decode code 727 = .ok (.iconst 2, 1) := by decide +kernel
theorem jd_law_728 : decode code 728 = .ok (.iadd, 1) := by decide +kernel
theorem jd_law_729 : decode code 729 = .ok (.iaload, 1) := by decide +kernel
theorem jd_law_730 : decode code 730 = .ok (.invokevirtual 96, 3) := by decide +kernel
theorem jd_law_733 : decode code 733 = .ok (.if_icmp .eq 295, 3) := by decide +kernel
theorem jd_law_736 : decode code 736 = .ok (.iconst 0, 1) := by decide +kernel
theorem jd_law_737 : decode code 737 = .ok (.ireturn, 1) := by decide +kernel
theorem jd_law_738 : decode code 738 = .ok (.aload_n 1, 1) := by decide +kernel
theorem jd_law_739 : decode code 739 = .ok (.aload_n 0, 1) := by decide +kernel
theorem jd_law_740 : decode code 740 = .ok (.iload_n 3, 1) := by decide +kernel
theorem jd_law_741 : decode code 741 = .ok (.iconst 1, 1) := by decide +kernel
theorem jd_law_742 : decode code 742 = .ok (.iadd, 1) := by decide +kernel
theorem jd_law_743 : decode code 743 = .ok (.iaload, 1) := by decide +kernel
theorem jd_law_744 : decode code 744 = .ok (.aload_n 0, 1) := by decide +kernel
theorem jd_law_745 : decode code 745 = .ok (.iload_n 3, 1) := by decide +kernel
