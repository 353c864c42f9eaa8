theorem dL_law_624 : decode code 624 = .ok (.iconst 1, 1) := by decide +kernel
theorem dL_law_625 : decode code 625 = .ok (.iadd, 1) := by decide +kernel
theorem dL_law_626 : decode code 626 = .ok (.iaload, 1) := by decide +kernel
theorem dL_law_627 : decode code 627 = .ok (.aload_n 0, 1) := by decide +kernel
theorem dL_law_628 : decode code 628 = .ok (.iload_n 3, 1) := by decide +kernel
theorem dL_law_629 : decode code 629 = .ok (.iconst 2, 1) := by decide +kernel
theorem dL_law_630 : decode code 630 = .ok (.iadd, 1) := by decide +kernel
theorem dL_law_631 : decode code 631 = .ok (.iaload, 1) := by decide +kernel
theorem dL_law_632 : decode code 632 = .ok (.aload_n 0, 1) := by decide +kernel
theorem dL_law_633 : decode code 633 = .ok (.iload_n 3, 1) := by decide +kernel
theorem dL_law_634 : decode code 634 = .ok (.iconst 3, 1) := by decide +kernel
theorem dL_law_635 : decode code 635 = .ok (.iadd, 1) := by decide +kernel
theorem dL_law_636 : decode code 636 = .ok (.iaload, 1) := by decide +kernel
theorem dL_law_637 : decode code 637 = .ok (.invokevirtual 78, 3) := by decide +kernel
theorem dL_law_640 : decode code 640 = .ok (.aload_n 2, 1) := by decide +kernel
theorem dL_law_641 : decode code 641 = .ok (.aload_n 0, 1) := by decide +kernel
theorem dL_law_642 : decode code 642 = .ok (.iload_n 3, 1) := by decide +kernel
theorem dL_law_643 : decode code 643 = .ok (.iconst 1, 1) := by decide +kernel
theorem dL_law_644 : decode code 644 = .ok (.iadd, 1) := by decide +kernel
theorem dL_law_645 : decode code 645 = .ok (.iaload, 1) := by decide +kernel
theorem dL_law_646 : decode code 646 = .ok (.aload_n 0, 1) := by decide +kernel
theorem dL_law_647 : decode code 647 = .ok (.iload_n 3, 1) := by decide +kernel
theorem dL_law_648 : decode code 648 = .ok (.iconst 2, 1) := by decide +kernel
theorem dL_law_649 : decode code 649 = .ok (.iadd, 1) := by decide +kernel
theorem dL_law_650 : decode code 650 = .ok (.iaload, 1) := by decide +kernel
theorem dL_law_651 : decode code 651 = .ok (.aload_n 0, 1) := by decide +kernel
theorem dL_law_652 : decode code 652 = .ok (.iload_n 3, 1) := by decide +kernel
theorem dL_law_653 : decode code 653 = .ok (.iconst 3, 1) := by decide +kernel
theorem dL_law_654 : decode code 654 = .ok (.iadd, 1) := by decide +kernel
theorem dL_law_655 : decode code 655 = .ok (.iaload, 1) := by decide +kernel
theorem dL_law_656 : decode code 656 = .ok (.invokevirtual 81, 3) := by decide +kernel
theorem dL_law_659 : decode code 659 = .ok (.if_icmp .eq 689, 3) := by decide +kernel
theorem dL_law_662 : decode code 662 = .ok (.iconst 0, 1) := by decide +kernel
theorem dL_law_663 : decode code 663 = .ok (.ireturn, 1) := by decide +kernel
theorem dL_law_664 : decode code 664 = .ok (.aload_n 1, 1) := by decide +kernel
theorem dL_law_665 : decode code 665 = .ok (.aload_n 0, 1) := by decide +kernel
theorem dL_law_666 : decode code 666 = .ok (.iload_n 3, 1) := by decide +kernel
theorem dL_law_667 : decode code 667 = .ok (.iconst 1, 1) := by decide +kernel
theorem dL_law_668 : decode code 668 = .ok (.iadd, 1) := by decide +kernel
theorem dL_law_669 : decode code 669 = .ok (.iaload, 1) := by decide +kernel
theorem dL_law_670 : decode code 670 = .ok (.aload_n 0, 1) := by decide +kernel
theorem dL_law_671 : decode code 671 = .ok (.iload_n 3, 1) := by decide +kernel
theorem dL_law_672 : decode code 672 = .ok (.iconst 2, 1) := by decide +kernel
theorem dL_law_673 : decode code 673 = .ok (.iadd, 1) := by decide +kernel
theorem dL_law_674 : decode code 674 = .ok (.iaload, 1) := by decide +kernel
theorem dL_law_675 : decode code 675 = .ok (.invokevirtual 82, 3) := by decide +kernel
theorem dL_law_678 : decode code 678 = .ok (.aload_n 2, 1) := by decide +kernel
theorem dL_law_679 : decode code 679 = .ok (.aload_n 0, 1) := by decide +kernel
theorem dL_law_680 : decode code 680 = .ok (.iload_n 3, 1) := by decide +kernel
theorem dL_law_681 : decode code 681 = .ok (.iconst 1, 1) := by decide +kernel
theorem dL_law_682 : decode code 682 = .ok (.iadd, 1) := by decide +kernel
theorem dL_law_683 : decode code 683 = .ok (.iaload, 1) := by decide +kernel
theorem dL_law_684 : decode code 684 = .ok (.aload_n 0, 1) := by decide +kernel
theorem dL_law_685 : decode code 685 = .ok (.iload_n 3, 1) := by decide +kernel
theorem dL_law_686 : decode code 686 = .ok (.iconst 2, 1) := by decide +kernel
theorem dL_law_687 : decode code 687 = .ok (.iadd, 1) := by decide +kernel
theorem dL_law_688 : decode code 688 = .ok (.iaload, 1) := by decide +kernel
theorem dL_law_689 : decode code 689 = .ok (.invokevirtual 85, 3) := by decide +kernel
theorem dL_law_692 : decode code 692 = .ok (.if_icmp .eq 656, 3) := by decide +kernel
theorem dL_law_695 : decode code 695 = .ok (.iconst 0, 1) := by decide +kernel
theorem dL_law_696 : decode code 696 = .ok (.ireturn, 1) := by decide +kernel
theorem dL_law_697 : decode code 697 = .ok (.aload_n 1, 1) := by decide +kernel
theorem dL_law_698 : decode code 698 = .ok (.aload_n 0, 1) := by decide +kernel
theorem dL_law_699 : decode code 699 = .ok (.iload_n 3, 1) := by decide +kernel
theorem dL_law_700 : decode code 700 = .ok (.iconst 1, 1) := by decide +kernel
theorem dL_law_701 : decode code 701 = .ok (.iadd, 1) := by decide +kernel
theorem dL_law_702 : decode code 702 = .ok (.iaload, 1) := by decide +kernel
theorem dL_law_703 : decode code 703 = .ok (.aload_n 0, 1) := by decide +kernel
theorem dL_law_704 : decode code 704 = .ok (.iload_n 3, 1) := by decide +kernel
theorem dL_law_705 : decode code 705 = .ok (.iconst 2, 1) := by decide +kernel
theorem dL_law_706 : decode code 706 = .ok (.iadd, 1) := by decide +kernel
theorem dL_law_707 : decode code 707 = .ok (.iaload, 1) := by decide +kernel
theorem dL_law_708 : decode code 708 = .ok (.invokevirtual 86, 3) := by decide +kernel
theorem dL_law_711 : decode code 711 = .ok (.aload_n 2, 1) := by decide +kernel
theorem dL_law_712 : decode code 712 = .ok (.aload_n 0, 1) := by decide +kernel
theorem dL_law_713 : decode code 713 = .ok (.iload_n 3, 1) := by decide +kernel
theorem dL_law_714 : decode code 714 = .ok (.iconst 1, 1) := by decide +kernel
theorem dL_law_715 : decode code 715 = .ok (.iadd, 1) := by decide +kernel
theorem dL_law_716 : decode code 716 = .ok (.iaload, 1) := by decide +kernel
theorem dL_law_717 : decode code 717 = .ok (.aload_n 0, 1) := by decide +kernel
theorem dL_law_718 : decode code 718 = .ok (.iload_n 3, 1) := by decide +kernel
theorem dL_law_719 : decode code 719 = .ok (.iconst 2, 1) := by decide +kernel
theorem dL_law_720 : decode code 720 = .ok (.iadd, 1) := by decide +kernel
theorem dL_law_721 : decode code 721 = .ok (.iaload, 1) := by decide +kernel
theorem dL_law_722 : decode code 722 = .ok (.invokevirtual 89, 3) := by decide +kernel
theorem dL_law_725 : decode code 725 = .ok (.if_icmp .eq 623, 3) := by decide +kernel
theorem dL_law_728 : decode code 728 = .ok (.iconst 0, 1) := by decide +kernel
theorem dL_law_729 : decode code 729 = .ok (.ireturn, 1) := by decide +kernel
theorem dL_law_730 : decode code 730 = .ok (.aload_n 1, 1) := by decide +kernel
theorem dL_law_731 : decode code 731 = .ok (.aload_n 0, 1) := by decide +kernel
theorem dL_law_732 : decode code 732 = .ok (.iload_n 3, 1) := by decide +kernel
theorem dL_law_733 : decode code 733 = .ok (.iconst 1, 1) := by decide +kernel
theorem dL_law_734 : decode code 734 = .ok (.iadd, 1) := by decide +kernel
theorem dL_law_735 : decode code 735 = .ok (.iaload, 1) := by decide +kernel
theorem dL_law_736 : decode code 736 = .ok (.aload_n 0, 1) := by decide +kernel
theorem dL_law_737 : decode code 737 = .ok (.iload_n 3, 1) := by decide +kernel
theorem dL_law_738 : decode code 738 = .ok (.iconst 2, 1) := by decide +kernel
theorem dL_law_739 : decode code 739 = .ok (.iadd, 1) := by decide +kernel
theorem dL_law_740 : decode code 740 = .ok (.iaload, 1) := by decide +kernel
theorem dL_law_741 : decode code 741 = .ok (.invokevirtual 90, 3) := by decide +kernel
theorem dL_law_744 : decode code 744 = .ok (.aload_n 2, 1) := by decide +kernel
theorem dL_law_745 : decode code 745 = .ok (.aload_n 0, 1) := by decide +kernel
theorem dL_law_746 : decode code 746 = .ok (.iload_n 3, 1) := by decide +kernel
theorem dL_law_747 : decode code 747 = .ok (.iconst 1, 1) := by decide +kernel
theorem dL_law_748 : decode code 748 = .ok (.iadd, 1) := by decide +kernel
theorem dL_law_749 : decode code 749 = .ok (.iaload, 1) := by decide +kernel
theorem dL_law_750 : decode code 750 = .ok (.aload_n 0, 1) := by decide +kernel
theorem dL_law_751 : decode code 751 = .ok (.iload_n 3, 1) := by decide +kernel
theorem dL_law_752 : decode code 752 = .ok (.iconst 2, 1) := by decide +kernel
theorem dL_law_753 : decode code 753 = .ok (.iadd, 1) := by decide +kernel
theorem dL_law_754 : decode code 754 = .ok (.iaload, 1) := by decide +kernel
theorem dL_law_755 : decode code 755 = .ok (.invokevirtual 93, 3) := by decide +kernel
theorem dL_law_758 : decode code 758 = .ok (.if_icmp .eq 590, 3) := by decide +kernel
theorem dL_law_761 : decode code 761 = .ok (.iconst 0, 1) := by decide +kernel
theorem dL_law_762 : decode code 762 = .ok (.ireturn, 1) := by decide +kernel
theorem dL_law_763 : decode code 763 = .ok (.aload_n 1, 1) := by decide +kernel
theorem dL_law_764 : decode code 764 = .ok (.invokevirtual 94, 3) := by decide +kernel
theorem dL_law_767 : decode code 767 = .ok (.aload_n 2, 1) := by decide +kernel
theorem dL_law_768 : decode code 768 = .ok (.invokevirtual 97, 3) := by decide +kernel
theorem dL_law_771 : decode code 771 = .ok (.if_icmp .eq 577, 3) := by decide +kernel
