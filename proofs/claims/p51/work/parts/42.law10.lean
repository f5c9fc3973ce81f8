theorem dL_law_588 : decode cL_law 588 = .ok (.aload_n 1, 1) := by decide +kernel
theorem dL_law_589 : decode cL_law 589 = .ok (.aload_n 0, 1) := by decide +kernel
theorem dL_law_590 : decode cL_law 590 = .ok (.iload_n 3, 1) := by decide +kernel
theorem dL_law_591 : decode cL_law 591 = .ok (.iconst 1, 1) := by decide +kernel
theorem dL_law_592 : decode cL_law 592 = .ok (.iadd, 1) := by decide +kernel
theorem dL_law_593 : decode cL_law 593 = .ok (.iaload, 1) := by decide +kernel
theorem dL_law_594 : decode cL_law 594 = .ok (.aload_n 0, 1) := by decide +kernel
theorem dL_law_595 : decode cL_law 595 = .ok (.iload_n 3, 1) := by decide +kernel
theorem dL_law_596 : decode cL_law 596 = .ok (.iconst 2, 1) := by decide +kernel
theorem dL_law_597 : decode cL_law 597 = .ok (.iadd, 1) := by decide +kernel
theorem dL_law_598 : decode cL_law 598 = .ok (.iaload, 1) := by decide +kernel
theorem dL_law_599 : decode cL_law 599 = .ok (.aload_n 0, 1) := by decide +kernel
theorem dL_law_600 : decode cL_law 600 = .ok (.iload_n 3, 1) := by decide +kernel
theorem dL_law_601 : decode cL_law 601 = .ok (.iconst 3, 1) := by decide +kernel
theorem dL_law_602 : decode cL_law 602 = .ok (.iadd, 1) := by decide +kernel
theorem dL_law_603 : decode cL_law 603 = .ok (.iaload, 1) := by decide +kernel
theorem dL_law_604 : decode cL_law 604 = .ok (.invokevirtual 59, 3) := by decide +kernel
theorem dL_law_607 : decode cL_law 607 = .ok (.pop, 1) := by decide +kernel
theorem dL_law_608 : decode cL_law 608 = .ok (.aload_n 2, 1) := by decide +kernel
theorem dL_law_609 : decode cL_law 609 = .ok (.aload_n 0, 1) := by decide +kernel
theorem dL_law_610 : decode cL_law 610 = .ok (.iload_n 3, 1) := by decide +kernel
theorem dL_law_611 : decode cL_law 611 = .ok (.iconst 1, 1) := by decide +kernel
theorem dL_law_612 : decode cL_law 612 = .ok (.iadd, 1) := by decide +kernel
theorem dL_law_613 : decode cL_law 613 = .ok (.iaload, 1) := by decide +kernel
theorem dL_law_614 : decode cL_law 614 = .ok (.aload_n 0, 1) := by decide +kernel
theorem dL_law_615 : decode cL_law 615 = .ok (.iload_n 3, 1) := by decide +kernel
theorem dL_law_616 : decode cL_law 616 = .ok (.iconst 2, 1) := by decide +kernel
theorem dL_law_617 : decode cL_law 617 = .ok (.iadd, 1) := by decide +kernel
theorem dL_law_618 : decode cL_law 618 = .ok (.iaload, 1) := by decide +kernel
theorem dL_law_619 : decode cL_law 619 = .ok (.aload_n 0, 1) := by decide +kernel
theorem dL_law_620 : decode cL_law 620 = .ok (.iload_n 3, 1) := by decide +kernel
theorem dL_law_621 : decode cL_law 621 = .ok (.iconst 3, 1) := by decide +kernel
theorem dL_law_622 : decode cL_law 622 = .ok (.iadd, 1) := by decide +kernel
theorem dL_law_623 : decode cL_law 623 = .ok (.iaload, 1) := by decide +kernel
theorem dL_law_624 : decode cL_law 624 = .ok (.invokevirtual 63, 3) := by decide +kernel
theorem dL_law_627 : decode cL_law 627 = .ok (.pop, 1) := by decide +kernel
theorem dL_law_628 : decode cL_law 628 = .ok (.goto 1638, 3) := by decide +kernel
theorem dL_law_631 : decode cL_law 631 = .ok (.aload_n 1, 1) := by decide +kernel
theorem dL_law_632 : decode cL_law 632 = .ok (.aload_n 0, 1) := by decide +kernel
theorem dL_law_633 : decode cL_law 633 = .ok (.iload_n 3, 1) := by decide +kernel
theorem dL_law_634 : decode cL_law 634 = .ok (.iconst 1, 1) := by decide +kernel
theorem dL_law_635 : decode cL_law 635 = .ok (.iadd, 1) := by decide +kernel
theorem dL_law_636 : decode cL_law 636 = .ok (.iaload, 1) := by decide +kernel
theorem dL_law_637 : decode cL_law 637 = .ok (.aload_n 0, 1) := by decide +kernel
theorem dL_law_638 : decode cL_law 638 = .ok (.iload_n 3, 1) := by decide +kernel
theorem dL_law_639 : decode cL_law 639 = .ok (.iconst 2, 1) := by decide +kernel
theorem dL_law_640 : decode cL_law 640 = .ok (.iadd, 1) := by decide +kernel
theorem dL_law_641 : decode cL_law 641 = .ok (.iaload, 1) := by decide +kernel
theorem dL_law_642 : decode cL_law 642 = .ok (.aload_n 0, 1) := by decide +kernel
theorem dL_law_643 : decode cL_law 643 = .ok (.iload_n 3, 1) := by decide +kernel
theorem dL_law_644 : decode cL_law 644 = .ok (.iconst 3, 1) := by decide +kernel
theorem dL_law_645 : decode cL_law 645 = .ok (.iadd, 1) := by decide +kernel
theorem dL_law_646 : decode cL_law 646 = .ok (.iaload, 1) := by decide +kernel
theorem dL_law_647 : decode cL_law 647 = .ok (.invokevirtual 64, 3) := by decide +kernel
theorem dL_law_650 : decode cL_law 650 = .ok (.pop2, 1) := by decide +kernel
theorem dL_law_651 : decode cL_law 651 = .ok (.aload_n 2, 1) := by decide +kernel
theorem dL_law_652 : decode cL_law 652 = .ok (.aload_n 0, 1) := by decide +kernel
theorem dL_law_653 : decode cL_law 653 = .ok (.iload_n 3, 1) := by decide +kernel
theorem dL_law_654 : decode cL_law 654 = .ok (.iconst 1, 1) := by decide +kernel
theorem dL_law_655 : decode cL_law 655 = .ok (.iadd, 1) := by decide +kernel
theorem dL_law_656 : decode cL_law 656 = .ok (.iaload, 1) := by decide +kernel
theorem dL_law_657 : decode cL_law 657 = .ok (.aload_n 0, 1) := by decide +kernel
theorem dL_law_658 : decode cL_law 658 = .ok (.iload_n 3, 1) := by decide +kernel
theorem dL_law_659 : decode cL_law 659 = .ok (.iconst 2, 1) := by decide +kernel
theorem dL_law_660 : decode cL_law 660 = .ok (.iadd, 1) := by decide +kernel
theorem dL_law_661 : decode cL_law 661 = .ok (.iaload, 1) := by decide +kernel
theorem dL_law_662 : decode cL_law 662 = .ok (.aload_n 0, 1) := by decide +kernel
theorem dL_law_663 : decode cL_law 663 = .ok (.iload_n 3, 1) := by decide +kernel
theorem dL_law_664 : decode cL_law 664 = .ok (.iconst 3, 1) := by decide +kernel
theorem dL_law_665 : decode cL_law 665 = .ok (.iadd, 1) := by decide +kernel
theorem dL_law_666 : decode cL_law 666 = .ok (.iaload, 1) := by decide +kernel
theorem dL_law_667 : decode cL_law 667 = .ok (.invokevirtual 68, 3) := by decide +kernel
theorem dL_law_670 : decode cL_law 670 = .ok (.pop2, 1) := by decide +kernel
theorem dL_law_671 : decode cL_law 671 = .ok (.goto 1595, 3) := by decide +kernel
theorem dL_law_674 : decode cL_law 674 = .ok (.aload_n 1, 1) := by decide +kernel
theorem dL_law_675 : decode cL_law 675 = .ok (.aload_n 0, 1) := by decide +kernel
theorem dL_law_676 : decode cL_law 676 = .ok (.iload_n 3, 1) := by decide +kernel
theorem dL_law_677 : decode cL_law 677 = .ok (.iconst 1, 1) := by decide +kernel
theorem dL_law_678 : decode cL_law 678 = .ok (.iadd, 1) := by decide +kernel
theorem dL_law_679 : decode cL_law 679 = .ok (.iaload, 1) := by decide +kernel
theorem dL_law_680 : decode cL_law 680 = .ok (.aload_n 0, 1) := by decide +kernel
theorem dL_law_681 : decode cL_law 681 = .ok (.iload_n 3, 1) := by decide +kernel
theorem dL_law_682 : decode cL_law 682 = .ok (.iconst 2, 1) := by decide +kernel
theorem dL_law_683 : decode cL_law 683 = .ok (.iadd, 1) := by decide +kernel
theorem dL_law_684 : decode cL_law 684 = .ok (.iaload, 1) := by decide +kernel
theorem dL_law_685 : decode cL_law 685 = .ok (.aload_n 0, 1) := by decide +kernel
theorem dL_law_686 : decode cL_law 686 = .ok (.iload_n 3, 1) := by decide +kernel
theorem dL_law_687 : decode cL_law 687 = .ok (.iconst 3, 1) := by decide +kernel
theorem dL_law_688 : decode cL_law 688 = .ok (.iadd, 1) := by decide +kernel
theorem dL_law_689 : decode cL_law 689 = .ok (.iaload, 1) := by decide +kernel
theorem dL_law_690 : decode cL_law 690 = .ok (.invokevirtual 69, 3) := by decide +kernel
theorem dL_law_693 : decode cL_law 693 = .ok (.pop2, 1) := by decide +kernel
theorem dL_law_694 : decode cL_law 694 = .ok (.aload_n 2, 1) := by decide +kernel
theorem dL_law_695 : decode cL_law 695 = .ok (.aload_n 0, 1) := by decide +kernel
theorem dL_law_696 : decode cL_law 696 = .ok (.iload_n 3, 1) := by decide +kernel
theorem dL_law_697 : decode cL_law 697 = .ok (.iconst 1, 1) := by decide +kernel
theorem dL_law_698 : decode cL_law 698 = .ok (.iadd, 1) := by decide +kernel
theorem dL_law_699 : decode cL_law 699 = .ok (.iaload, 1) := by decide +kernel
theorem dL_law_700 : decode cL_law 700 = .ok (.aload_n 0, 1) := by decide +kernel
theorem dL_law_701 : decode cL_law 701 = .ok (.iload_n 3, 1) := by decide +kernel
theorem dL_law_702 : decode cL_law 702 = .ok (.iconst 2, 1) := by decide +kernel
theorem dL_law_703 : decode cL_law 703 = .ok (.iadd, 1) := by decide +kernel
theorem dL_law_704 : decode cL_law 704 = .ok (.iaload, 1) := by decide +kernel
theorem dL_law_705 : decode cL_law 705 = .ok (.aload_n 0, 1) := by decide +kernel
theorem dL_law_706 : decode cL_law 706 = .ok (.iload_n 3, 1) := by decide +kernel
theorem dL_law_707 : decode cL_law 707 = .ok (.iconst 3, 1) := by decide +kernel
theorem dL_law_708 : decode cL_law 708 = .ok (.iadd, 1) := by decide +kernel
theorem dL_law_709 : decode cL_law 709 = .ok (.iaload, 1) := by decide +kernel
theorem dL_law_710 : decode cL_law 710 = .ok (.invokevirtual 72, 3) := by decide +kernel
theorem dL_law_713 : decode cL_law 713 = .ok (.pop2, 1) := by decide +kernel
theorem dL_law_714 : decode cL_law 714 = .ok (.goto 1552, 3) := by decide +kernel
theorem dL_law_717 : decode cL_law 717 = .ok (.aload_n 1, 1) := by decide +kernel
theorem dL_law_718 : decode cL_law 718 = .ok (.aload_n 0, 1) := by decide +kernel
theorem dL_law_719 : decode cL_law 719 = .ok (.iload_n 3, 1) := by decide +kernel
theorem dL_law_720 : decode cL_law 720 = .ok (.iconst 1, 1) := by decide +kernel
theorem dL_law_721 : decode cL_law 721 = .ok (.iadd, 1) := by decide +kernel
theorem dL_law_722 : decode cL_law 722 = .ok (.iaload, 1) := by decide +kernel
theorem dL_law_723 : decode cL_law 723 = .ok (.aload_n 0, 1) := by decide +kernel
theorem dL_law_724 : decode cL_law 724 = .ok (.iload_n 3, 1) := by decide +kernel
theorem dL_law_725 : decode cL_law 725 = .ok (.iconst 2, 1) := by decide +kernel
theorem dL_law_726 : decode cL_law 726 = .ok (.iadd, 1) := by decide +kernel
theorem dL_law_727 : decode cL_law 727 = .ok (.iaload, 1) := by decide +kernel
theorem dL_law_728 : decode cL_law 728 = .ok (.invokevirtual 73, 3) := by decide +kernel
theorem dL_law_731 : decode cL_law 731 = .ok (.pop, 1) := by decide +kernel
theorem dL_law_732 : decode cL_law 732 = .ok (.aload_n 2, 1) := by decide +kernel
theorem dL_law_733 : decode cL_law 733 = .ok (.aload_n 0, 1) := by decide +kernel
theorem dL_law_734 : decode cL_law 734 = .ok (.iload_n 3, 1) := by decide +kernel
theorem dL_law_735 : decode cL_law 735 = .ok (.iconst 1, 1) := by decide +kernel
theorem dL_law_736 : decode cL_law 736 = .ok (.iadd, 1) := by decide +kernel
theorem dL_law_737 : decode cL_law 737 = .ok (.iaload, 1) := by decide +kernel
theorem dL_law_738 : decode cL_law 738 = .ok (.aload_n 0, 1) := by decide +kernel
theorem dL_law_739 : decode cL_law 739 = .ok (.iload_n 3, 1) := by decide +kernel
theorem dL_law_740 : decode cL_law 740 = .ok (.iconst 2, 1) := by decide +kernel
theorem dL_law_741 : decode cL_law 741 = .ok (.iadd, 1) := by decide +kernel
theorem dL_law_742 : decode cL_law 742 = .ok (.iaload, 1) := by decide +kernel
theorem dL_law_743 : decode cL_law 743 = .ok (.invokevirtual 76, 3) := by decide +kernel
theorem dL_law_746 : decode cL_law 746 = .ok (.pop, 1) := by decide +kernel
theorem dL_law_747 : decode cL_law 747 = .ok (.goto 1519, 3) := by decide +kernel
theorem dL_law_750 : decode cL_law 750 = .ok (.aload_n 1, 1) := by decide +kernel
theorem dL_law_751 : decode cL_law 751 = .ok (.aload_n 0, 1) := by decide +kernel
theorem dL_law_752 : decode cL_law 752 = .ok (.iload_n 3, 1) := by decide +kernel
theorem dL_law_753 : decode cL_law 753 = .ok (.iconst 1, 1) := by decide +kernel
theorem dL_law_754 : decode cL_law 754 = .ok (.iadd, 1) := by decide +kernel
theorem dL_law_755 : decode cL_law 755 = .ok (.iaload, 1) := by decide +kernel
theorem dL_law_756 : decode cL_law 756 = .ok (.aload_n 0, 1) := by decide +kernel
theorem dL_law_757 : decode cL_law 757 = .ok (.iload_n 3, 1) := by decide +kernel
theorem dL_law_758 : decode cL_law 758 = .ok (.iconst 2, 1) := by decide +kernel
theorem dL_law_759 : decode cL_law 759 = .ok (.iadd, 1) := by decide +kernel
theorem dL_law_760 : decode cL_law 760 = .ok (.iaload, 1) := by decide +kernel
theorem dL_law_761 : decode cL_law 761 = .ok (.aload_n 0, 1) := by decide +kernel
theorem dL_law_762 : decode cL_law 762 = .ok (.iload_n 3, 1) := by decide +kernel
theorem dL_law_763 : decode cL_law 763 = .ok (.iconst 3, 1) := by decide +kernel
theorem dL_law_764 : decode cL_law 764 = .ok (.iadd, 1) := by decide +kernel
theorem dL_law_765 : decode cL_law 765 = .ok (.iaload, 1) := by decide +kernel
theorem dL_law_766 : decode cL_law 766 = .ok (.invokevirtual 77, 3) := by decide +kernel
theorem dL_law_769 : decode cL_law 769 = .ok (.pop2, 1) := by decide +kernel
theorem dL_law_770 : decode cL_law 770 = .ok (.aload_n 2, 1) := by decide +kernel
theorem dL_law_771 : decode cL_law 771 = .ok (.aload_n 0, 1) := by decide +kernel
theorem dL_law_772 : decode cL_law 772 = .ok (.iload_n 3, 1) := by decide +kernel
theorem dL_law_773 : decode cL_law 773 = .ok (.iconst 1, 1) := by decide +kernel
theorem dL_law_774 : decode cL_law 774 = .ok (.iadd, 1) := by decide +kernel
theorem dL_law_775 : decode cL_law 775 = .ok (.iaload, 1) := by decide +kernel
theorem dL_law_776 : decode cL_law 776 = .ok (.aload_n 0, 1) := by decide +kernel
theorem dL_law_777 : decode cL_law 777 = .ok (.iload_n 3, 1) := by decide +kernel
theorem dL_law_778 : decode cL_law 778 = .ok (.iconst 2, 1) := by decide +kernel
theorem dL_law_779 : decode cL_law 779 = .ok (.iadd, 1) := by decide +kernel
theorem dL_law_780 : decode cL_law 780 = .ok (.iaload, 1) := by decide +kernel
theorem dL_law_781 : decode cL_law 781 = .ok (.aload_n 0, 1) := by decide +kernel
theorem dL_law_782 : decode cL_law 782 = .ok (.iload_n 3, 1) := by decide +kernel
theorem dL_law_783 : decode cL_law 783 = .ok (.iconst 3, 1) := by decide +kernel
theorem dL_law_784 : decode cL_law 784 = .ok (.iadd, 1) := by decide +kernel
theorem dL_law_785 : decode cL_law 785 = .ok (.iaload, 1) := by decide +kernel
theorem dL_law_786 : decode cL_law 786 = .ok (.invokevirtual 80, 3) := by decide +kernel
theorem dL_law_789 : decode cL_law 789 = .ok (.pop2, 1) := by decide +kernel
theorem dL_law_790 : decode cL_law 790 = .ok (.goto 1476, 3) := by decide +kernel
theorem dL_law_793 : decode cL_law 793 = .ok (.aload_n 1, 1) := by decide +kernel
theorem dL_law_794 : decode cL_law 794 = .ok (.aload_n 0, 1) := by decide +kernel
theorem dL_law_795 : decode cL_law 795 = .ok (.iload_n 3, 1) := by decide +kernel
theorem dL_law_796 : decode cL_law 796 = .ok (.iconst 1, 1) := by decide +kernel
theorem dL_law_797 : decode cL_law 797 = .ok (.iadd, 1) := by decide +kernel
theorem dL_law_798 : decode cL_law 798 = .ok (.iaload, 1) := by decide +kernel
theorem dL_law_799 : decode cL_law 799 = .ok (.aload_n 0, 1) := by decide +kernel
theorem dL_law_800 : decode cL_law 800 = .ok (.iload_n 3, 1) := by decide +kernel
theorem dL_law_801 : decode cL_law 801 = .ok (.iconst 2, 1) := by decide +kernel
theorem dL_law_802 : decode cL_law 802 = .ok (.iadd, 1) := by decide +kernel
theorem dL_law_803 : decode cL_law 803 = .ok (.iaload, 1) := by decide +kernel
theorem dL_law_804 : decode cL_law 804 = .ok (.aload_n 0, 1) := by decide +kernel
theorem dL_law_805 : decode cL_law 805 = .ok (.iload_n 3, 1) := by decide +kernel
theorem dL_law_806 : decode cL_law 806 = .ok (.iconst 3, 1) := by decide +kernel
theorem dL_law_807 : decode cL_law 807 = .ok (.iadd, 1) := by decide +kernel
theorem dL_law_808 : decode cL_law 808 = .ok (.iaload, 1) := by decide +kernel
theorem dL_law_809 : decode cL_law 809 = .ok (.invokevirtual 81, 3) := by decide +kernel
theorem dL_law_812 : decode cL_law 812 = .ok (.pop, 1) := by decide +kernel
theorem dL_law_813 : decode cL_law 813 = .ok (.aload_n 2, 1) := by decide +kernel
theorem dL_law_814 : decode cL_law 814 = .ok (.aload_n 0, 1) := by decide +kernel
theorem dL_law_815 : decode cL_law 815 = .ok (.iload_n 3, 1) := by decide +kernel
theorem dL_law_816 : decode cL_law 816 = .ok (.iconst 1, 1) := by decide +kernel
theorem dL_law_817 : decode cL_law 817 = .ok (.iadd, 1) := by decide +kernel
theorem dL_law_818 : decode cL_law 818 = .ok (.iaload, 1) := by decide +kernel
theorem dL_law_819 : decode cL_law 819 = .ok (.aload_n 0, 1) := by decide +kernel
theorem dL_law_820 : decode cL_law 820 = .ok (.iload_n 3, 1) := by decide +kernel
theorem dL_law_821 : decode cL_law 821 = .ok (.iconst 2, 1) := by decide +kernel
theorem dL_law_822 : decode cL_law 822 = .ok (.iadd, 1) := by decide +kernel
theorem dL_law_823 : decode cL_law 823 = .ok (.iaload, 1) := by decide +kernel
theorem dL_law_824 : decode cL_law 824 = .ok (.aload_n 0, 1) := by decide +kernel
theorem dL_law_825 : decode cL_law 825 = .ok (.iload_n 3, 1) := by decide +kernel
theorem dL_law_826 : decode cL_law 826 = .ok (.iconst 3, 1) := by decide +kernel
theorem dL_law_827 : decode cL_law 827 = .ok (.iadd, 1) := by decide +kernel
theorem dL_law_828 : decode cL_law 828 = .ok (.iaload, 1) := by decide +kernel
theorem dL_law_829 : decode cL_law 829 = .ok (.invokevirtual 84, 3) := by decide +kernel
theorem dL_law_832 : decode cL_law 832 = .ok (.pop, 1) := by decide +kernel
theorem dL_law_833 : decode cL_law 833 = .ok (.goto 1433, 3) := by decide +kernel
theorem dL_law_836 : decode cL_law 836 = .ok (.aload_n 1, 1) := by decide +kernel
theorem dL_law_837 : decode cL_law 837 = .ok (.aload_n 0, 1) := by decide +kernel
theorem dL_law_838 : decode cL_law 838 = .ok (.iload_n 3, 1) := by decide +kernel
theorem dL_law_839 : decode cL_law 839 = .ok (.iconst 1, 1) := by decide +kernel
theorem dL_law_840 : decode cL_law 840 = .ok (.iadd, 1) := by decide +kernel
theorem dL_law_841 : decode cL_law 841 = .ok (.iaload, 1) := by decide +kernel
theorem dL_law_842 : decode cL_law 842 = .ok (.invokevirtual 85, 3) := by decide +kernel
theorem dL_law_845 : decode cL_law 845 = .ok (.pop2, 1) := by decide +kernel
theorem dL_law_846 : decode cL_law 846 = .ok (.aload_n 2, 1) := by decide +kernel
theorem dL_law_847 : decode cL_law 847 = .ok (.aload_n 0, 1) := by decide +kernel
theorem dL_law_848 : decode cL_law 848 = .ok (.iload_n 3, 1) := by decide +kernel
theorem dL_law_849 : decode cL_law 849 = .ok (.iconst 1, 1) := by decide +kernel
theorem dL_law_850 : decode cL_law 850 = .ok (.iadd, 1) := by decide +kernel
theorem dL_law_851 : decode cL_law 851 = .ok (.iaload, 1) := by decide +kernel
theorem dL_law_852 : decode cL_law 852 = .ok (.invokevirtual 89, 3) := by decide +kernel
theorem dL_law_855 : decode cL_law 855 = .ok (.pop2, 1) := by decide +kernel
theorem dL_law_856 : decode cL_law 856 = .ok (.goto 1410, 3) := by decide +kernel
theorem dL_law_859 : decode cL_law 859 = .ok (.aload_n 1, 1) := by decide +kernel
theorem dL_law_860 : decode cL_law 860 = .ok (.aload_n 0, 1) := by decide +kernel
theorem dL_law_861 : decode cL_law 861 = .ok (.iload_n 3, 1) := by decide +kernel
theorem dL_law_862 : decode cL_law 862 = .ok (.iconst 1, 1) := by decide +kernel
theorem dL_law_863 : decode cL_law 863 = .ok (.iadd, 1) := by decide +kernel
theorem dL_law_864 : decode cL_law 864 = .ok (.iaload, 1) := by decide +kernel
theorem dL_law_865 : decode cL_law 865 = .ok (.aload_n 0, 1) := by decide +kernel
theorem dL_law_866 : decode cL_law 866 = .ok (.iload_n 3, 1) := by decide +kernel
theorem dL_law_867 : decode cL_law 867 = .ok (.iconst 2, 1) := by decide +kernel
theorem dL_law_868 : decode cL_law 868 = .ok (.iadd, 1) := by decide +kernel
theorem dL_law_869 : decode cL_law 869 = .ok (.iaload, 1) := by decide +kernel
theorem dL_law_870 : decode cL_law 870 = .ok (.invokevirtual 90, 3) := by decide +kernel
theorem dL_law_873 : decode cL_law 873 = .ok (.pop, 1) := by decide +kernel
theorem dL_law_874 : decode cL_law 874 = .ok (.aload_n 2, 1) := by decide +kernel
theorem dL_law_875 : decode cL_law 875 = .ok (.aload_n 0, 1) := by decide +kernel
theorem dL_law_876 : decode cL_law 876 = .ok (.iload_n 3, 1) := by decide +kernel
theorem dL_law_877 : decode cL_law 877 = .ok (.iconst 1, 1) := by decide +kernel
theorem dL_law_878 : decode cL_law 878 = .ok (.iadd, 1) := by decide +kernel
theorem dL_law_879 : decode cL_law 879 = .ok (.iaload, 1) := by decide +kernel
theorem dL_law_880 : decode cL_law 880 = .ok (.aload_n 0, 1) := by decide +kernel
theorem dL_law_881 : decode cL_law 881 = .ok (.iload_n 3, 1) := by decide +kernel
theorem dL_law_882 : decode cL_law 882 = .ok (.iconst 2, 1) := by decide +kernel
theorem dL_law_883 : decode cL_law 883 = .ok (.iadd, 1) := by decide +kernel
theorem dL_law_884 : decode cL_law 884 = .ok (.iaload, 1) := by decide +kernel
theorem dL_law_885 : decode cL_law 885 = .ok (.invokevirtual 93, 3) := by decide +kernel
theorem dL_law_888 : decode cL_law 888 = .ok (.pop, 1) := by decide +kernel
theorem dL_law_889 : decode cL_law 889 = .ok (.goto 1377, 3) := by decide +kernel
theorem dL_law_892 : decode cL_law 892 = .ok (.aload_n 1, 1) := by decide +kernel
theorem dL_law_893 : decode cL_law 893 = .ok (.aload_n 0, 1) := by decide +kernel
theorem dL_law_894 : decode cL_law 894 = .ok (.iload_n 3, 1) := by decide +kernel
theorem dL_law_895 : decode cL_law 895 = .ok (.iconst 1, 1) := by decide +kernel
theorem dL_law_896 : decode cL_law 896 = .ok (.iadd, 1) := by decide +kernel
theorem dL_law_897 : decode cL_law 897 = .ok (.iaload, 1) := by decide +kernel
theorem dL_law_898 : decode cL_law 898 = .ok (.invokevirtual 94, 3) := by decide +kernel
theorem dL_law_901 : decode cL_law 901 = .ok (.pop2, 1) := by decide +kernel
theorem dL_law_902 : decode cL_law 902 = .ok (.aload_n 2, 1) := by decide +kernel
theorem dL_law_903 : decode cL_law 903 = .ok (.aload_n 0, 1) := by decide +kernel
theorem dL_law_904 : decode cL_law 904 = .ok (.iload_n 3, 1) := by decide +kernel
theorem dL_law_905 : decode cL_law 905 = .ok (.iconst 1, 1) := by decide +kernel
theorem dL_law_906 : decode cL_law 906 = .ok (.iadd, 1) := by decide +kernel
theorem dL_law_907 : decode cL_law 907 = .ok (.iaload, 1) := by decide +kernel
theorem dL_law_908 : decode cL_law 908 = .ok (.invokevirtual 97, 3) := by decide +kernel
theorem dL_law_911 : decode cL_law 911 = .ok (.pop2, 1) := by decide +kernel
theorem dL_law_912 : decode cL_law 912 = .ok (.goto 1354, 3) := by decide +kernel
theorem dL_law_915 : decode cL_law 915 = .ok (.aload_n 1, 1) := by decide +kernel
theorem dL_law_916 : decode cL_law 916 = .ok (.aload_n 0, 1) := by decide +kernel
theorem dL_law_917 : decode cL_law 917 = .ok (.iload_n 3, 1) := by decide +kernel
theorem dL_law_918 : decode cL_law 918 = .ok (.iconst 1, 1) := by decide +kernel
theorem dL_law_919 : decode cL_law 919 = .ok (.iadd, 1) := by decide +kernel
theorem dL_law_920 : decode cL_law 920 = .ok (.iaload, 1) := by decide +kernel
theorem dL_law_921 : decode cL_law 921 = .ok (.aload_n 0, 1) := by decide +kernel
theorem dL_law_922 : decode cL_law 922 = .ok (.iload_n 3, 1) := by decide +kernel
theorem dL_law_923 : decode cL_law 923 = .ok (.iconst 2, 1) := by decide +kernel
theorem dL_law_924 : decode cL_law 924 = .ok (.iadd, 1) := by decide +kernel
theorem dL_law_925 : decode cL_law 925 = .ok (.iaload, 1) := by decide +kernel
theorem dL_law_926 : decode cL_law 926 = .ok (.invokevirtual 98, 3) := by decide +kernel
theorem dL_law_929 : decode cL_law 929 = .ok (.pop2, 1) := by decide +kernel
theorem dL_law_930 : decode cL_law 930 = .ok (.aload_n 2, 1) := by decide +kernel
theorem dL_law_931 : decode cL_law 931 = .ok (.aload_n 0, 1) := by decide +kernel
theorem dL_law_932 : decode cL_law 932 = .ok (.iload_n 3, 1) := by decide +kernel
theorem dL_law_933 : decode cL_law 933 = .ok (.iconst 1, 1) := by decide +kernel
theorem dL_law_934 : decode cL_law 934 = .ok (.iadd, 1) := by decide +kernel
theorem dL_law_935 : decode cL_law 935 = .ok (.iaload, 1) := by decide +kernel
theorem dL_law_936 : decode cL_law 936 = .ok (.aload_n 0, 1) := by decide +kernel
theorem dL_law_937 : decode cL_law 937 = .ok (.iload_n 3, 1) := by decide +kernel
theorem dL_law_938 : decode cL_law 938 = .ok (.iconst 2, 1) := by decide +kernel
theorem dL_law_939 : decode cL_law 939 = .ok (.iadd, 1) := by decide +kernel
theorem dL_law_940 : decode cL_law 940 = .ok (.iaload, 1) := by decide +kernel
theorem dL_law_941 : decode cL_law 941 = .ok (.invokevirtual 101, 3) := by decide +kernel
theorem dL_law_944 : decode cL_law 944 = .ok (.pop2, 1) := by decide +kernel
theorem dL_law_945 : decode cL_law 945 = .ok (.goto 1321, 3) := by decide +kernel
theorem sV_L_59 : SiteV RL 59 yX9_wants cX9_wants 4 (some .int) 3 := ⟨ml_L_59, im_X9_wants, se_X9_wants, ini_X9, co_X9_wants, by decide +kernel⟩
theorem sV_L_63 : SiteV RL 63 yX10_wants cX10_wants 4 (some .int) 3 := ⟨ml_L_63, im_X10_wants, se_X10_wants, ini_X10, co_X10_wants, by decide +kernel⟩
theorem sV_L_64 : SiteV RL 64 yX9_cost cX9_cost 4 (some .long) 3 := ⟨ml_L_64, im_X9_cost, se_X9_cost, ini_X9, co_X9_cost, by decide +kernel⟩
theorem sV_L_68 : SiteV RL 68 yX10_cost cX10_cost 4 (some .long) 3 := ⟨ml_L_68, im_X10_cost, se_X10_cost, ini_X10, co_X10_cost, by decide +kernel⟩
theorem sV_L_69 : SiteV RL 69 yX9_worth cX9_worth 4 (some .long) 3 := ⟨ml_L_69, im_X9_worth, se_X9_worth, ini_X9, co_X9_worth, by decide +kernel⟩
theorem sV_L_72 : SiteV RL 72 yX10_worth cX10_worth 4 (some .long) 3 := ⟨ml_L_72, im_X10_worth, se_X10_worth, ini_X10, co_X10_worth, by decide +kernel⟩
theorem sV_L_73 : SiteV RL 73 yX9_best cX9_best 3 (some .int) 2 := ⟨ml_L_73, im_X9_best, se_X9_best, ini_X9, co_X9_best, by decide +kernel⟩
theorem sV_L_76 : SiteV RL 76 yX10_best cX10_best 3 (some .int) 2 := ⟨ml_L_76, im_X10_best, se_X10_best, ini_X10, co_X10_best, by decide +kernel⟩
theorem sV_L_77 : SiteV RL 77 yX9_sure cX9_sure 4 (some .long) 3 := ⟨ml_L_77, im_X9_sure, se_X9_sure, ini_X9, co_X9_sure, by decide +kernel⟩
theorem sV_L_80 : SiteV RL 80 yX10_sure cX10_sure 4 (some .long) 3 := ⟨ml_L_80, im_X10_sure, se_X10_sure, ini_X10, co_X10_sure, by decide +kernel⟩
theorem sV_L_81 : SiteV RL 81 yX9_need cX9_need 7 (some .int) 3 := ⟨ml_L_81, im_X9_need, se_X9_need, ini_X9, co_X9_need, by decide +kernel⟩
theorem sV_L_84 : SiteV RL 84 yX10_need cX10_need 5 (some .int) 3 := ⟨ml_L_84, im_X10_need, se_X10_need, ini_X10, co_X10_need, by decide +kernel⟩
theorem sV_L_85 : SiteV RL 85 yX9_packed cX9_packed 2 (some .long) 1 := ⟨ml_L_85, im_X9_packed, se_X9_packed, ini_X9, co_X9_packed, by decide +kernel⟩
theorem sV_L_89 : SiteV RL 89 yX10_packed cX10_packed 2 (some .long) 1 := ⟨ml_L_89, im_X10_packed, se_X10_packed, ini_X10, co_X10_packed, by decide +kernel⟩
theorem sV_L_90 : SiteV RL 90 yX9_pack cX9_pack 3 (some .int) 2 := ⟨ml_L_90, im_X9_pack, se_X9_pack, ini_X9, co_X9_pack, by decide +kernel⟩
theorem sV_L_93 : SiteV RL 93 yX10_pack cX10_pack 6 (some .int) 2 := ⟨ml_L_93, im_X10_pack, se_X10_pack, ini_X10, co_X10_pack, by decide +kernel⟩
theorem sV_L_94 : SiteV RL 94 yX9_gap cX9_gap 7 (some .long) 1 := ⟨ml_L_94, im_X9_gap, se_X9_gap, ini_X9, co_X9_gap, by decide +kernel⟩
theorem sV_L_97 : SiteV RL 97 yX10_gap cX10_gap 5 (some .long) 1 := ⟨ml_L_97, im_X10_gap, se_X10_gap, ini_X10, co_X10_gap, by decide +kernel⟩
theorem sV_L_98 : SiteV RL 98 yX9_late cX9_late 3 (some .long) 2 := ⟨ml_L_98, im_X9_late, se_X9_late, ini_X9, co_X9_late, by decide +kernel⟩
theorem sV_L_101 : SiteV RL 101 yX10_late cX10_late 3 (some .long) 2 := ⟨ml_L_101, im_X10_late, se_X10_late, ini_X10, co_X10_late, by decide +kernel⟩
set_option maxHeartbeats 4000000 in
set_option maxRecDepth 100000 in
theorem lc_10 {p : Program} {e : Env} {s : State} {m : MethodId} {below : List Frame} {meth : Method} {c : Code} {l : Launch} {b L : Nat} {xs : Nat → Int32} (D : va_G) (cy : Nat → ClassId) (adK adV : Nat → Nat) (base xo mo : Nat) (C0 : lw_At p s m meth c b L xs) (hK : KK D cy s) (hSS : SS adK adV base s s.heap) (hZ : base ≤ s.heap.size) (hZ2 : s.heap.size ≤ base) (hbA : ¬ RA base b) (hLs : L ≤ 3584) (τ : Nat → Nat) (G : Gh) (i : Int32) (hi0 : 0 ≤ i.toInt) (hi7 : i.toInt + 7 ≤ L) (hLI : LI τ G xo mo) {H : Heap} {locs : List Loc} (hT : TY D cy base τ G H) (hS : va_S (RA base) s.heap H locs) {ls : Array Slot} (hl : lv_has ls 4 [(3, .int i), (2, .ref mo), (1, .ref xo), (0, .ref b)]) {cells slots : Nat} (hroom : cells + 100 ≤ room_1.cells ∧ slots + 1000 ≤ room_1.slots) (kk : ∀ (τ1 : Nat → Nat) (G1 : Gh) (H1 : Heap) (locs1 : List Loc) (ls1 : Array Slot), LI τ1 G1 xo mo → TY D cy base τ1 G1 H1 → va_S (RA base) s.heap H1 locs1 → lv_has ls1 4 [(3, .int i), (2, .ref mo), (1, .ref xo), (0, .ref b)] → W p l e room_1 s m #[Value.ref b] below meth c H1 locs1 (cells + 10) (slots + 200) (lw_Z below #[Value.ref b] s) (F0 m 2266 ls1 [])) : W p l e room_1 s m #[Value.ref b] below meth c H locs cells slots (lw_Z below #[Value.ref b] s) (F0 m 588 ls []) := by
  obtain ⟨hx, hb, hr, hml, hown, hts, hX, hbl, hlocks, hgv⟩ := id C0
  have hown : s.vm.findClass RL = some m.cls := hown
  have hb : c.code = cL_law := hb
  have hts : ∀ w ∈ GW, w.before #[Value.ref b] s = true := fun w h => hts w (gw_tbl w h)
  have h_xo := hLI.1
  have h_mo := hLI.2.1
  have hF : Fr τ [1, 2, 3, 4, 6, 7, 11, 20, 25, 26, 27, 28, 29, 30, 31, 32, 33, 34, 35, 36, 37, 38, 39, 40, 51, 52, 53, 54, 55, 66, 67, 68, 69, 70, 71, 72, 73, 74, 75, 76, 77, 78, 79, 80, 81, 82, 83, 84, 85, 86, 87, 88, 89, 90, 91, 1001, 1002, 1004, 1023, 1024] G G := Fr.rf
  obtain ⟨w1, ew1⟩ : ∃ y : Int32, y = xs (i.toInt.toNat + 1) := ⟨_, rfl⟩
  obtain ⟨w2, ew2⟩ : ∃ y : Int32, y = xs (i.toInt.toNat + 2) := ⟨_, rfl⟩
  obtain ⟨w3, ew3⟩ : ∃ y : Int32, y = xs (i.toInt.toNat + 3) := ⟨_, rfl⟩
  refine lv_aload_n hx hb dL_law_588 rfl (lv_at hl 2 rfl) ?_
  refine lv_aload_n hx hb dL_law_589 rfl (lv_at hl 3 rfl) ?_
  refine lv_iload_n hx hb dL_law_590 rfl (lv_at hl 0 rfl) ?_
  refine lv_iconst (v := 1) hx hb dL_law_591 (by decide) ?_
  refine lv_iadd hx hb dL_law_592 ?_
  refine lv_topi (fun z_1 ez_1 => ?_)
  have tz_1 : z_1.toInt = i.toInt + 1 := add_t ez_1 (show -2147483648 ≤ i.toInt + 1 by omega) (show i.toInt + 1 < 2147483648 by omega)
  refine va_sld (i := z_1) hx hb hX hbl hbA hS (vp_in_iff.mpr ⟨by omega, by omega⟩) dL_law_593 ?_
  refine W.eq (g2 := F0 m 594 ls [.int w1, .ref xo]) (by rw [ew1, show z_1.toNatClampNeg = i.toInt.toNat + 1 from (show z_1.toInt.toNat = _ by omega)]) ?_
  refine lv_aload_n hx hb dL_law_594 rfl (lv_at hl 3 rfl) ?_
  refine lv_iload_n hx hb dL_law_595 rfl (lv_at hl 0 rfl) ?_
  refine lv_iconst (v := 2) hx hb dL_law_596 (by decide) ?_
  refine lv_iadd hx hb dL_law_597 ?_
  refine lv_topi (fun z_2 ez_2 => ?_)
  have tz_2 : z_2.toInt = i.toInt + 2 := add_t ez_2 (show -2147483648 ≤ i.toInt + 2 by omega) (show i.toInt + 2 < 2147483648 by omega)
  refine va_sld (i := z_2) hx hb hX hbl hbA hS (vp_in_iff.mpr ⟨by omega, by omega⟩) dL_law_598 ?_
  refine W.eq (g2 := F0 m 599 ls [.int w2, .int w1, .ref xo]) (by rw [ew2, show z_2.toNatClampNeg = i.toInt.toNat + 2 from (show z_2.toInt.toNat = _ by omega)]) ?_
  refine lv_aload_n hx hb dL_law_599 rfl (lv_at hl 3 rfl) ?_
  refine lv_iload_n hx hb dL_law_600 rfl (lv_at hl 0 rfl) ?_
  refine lv_iconst (v := 3) hx hb dL_law_601 (by decide) ?_
  refine lv_iadd hx hb dL_law_602 ?_
  refine lv_topi (fun z_3 ez_3 => ?_)
  have tz_3 : z_3.toInt = i.toInt + 3 := add_t ez_3 (show -2147483648 ≤ i.toInt + 3 by omega) (show i.toInt + 3 < 2147483648 by omega)
  refine va_sld (i := z_3) hx hb hX hbl hbA hS (vp_in_iff.mpr ⟨by omega, by omega⟩) dL_law_603 ?_
  refine W.eq (g2 := F0 m 604 ls [.int w3, .int w2, .int w1, .ref xo]) (by rw [ew3, show z_3.toNatClampNeg = i.toInt.toNat + 3 from (show z_3.toInt.toNat = _ by omega)]) ?_
  refine pu_calli (runV (As := [.int w1, .int w2, .int w3]) (rest := []) ⟨hx, hb, hml, hown, hts⟩ (t_X9_wants l D cy base τ G xo h_xo w1 w2 w3) sV_L_59 hK (t_recv cf_1 hK hT h_xo) ⟨Nat.le_trans hZ hS.1, hT⟩ ⟨Nat.le_of_ble_eq_true rfl, Nat.le_of_ble_eq_true rfl⟩ rfl hl.1 rfl (Nat.le_of_ble_eq_true rfl) dL_law_604 ⟨by have q9 := hroom.1; omega, by have q9 := hroom.2; omega⟩) (fun r_4 hr_4 => ?_)
  refine lv_pop hx hb dL_law_607 rfl ?_
  refine lv_aload_n hx hb dL_law_608 rfl (lv_at hl 1 rfl) ?_
  refine lv_aload_n hx hb dL_law_609 rfl (lv_at hl 3 rfl) ?_
  refine lv_iload_n hx hb dL_law_610 rfl (lv_at hl 0 rfl) ?_
  refine lv_iconst (v := 1) hx hb dL_law_611 (by decide) ?_
  refine lv_iadd hx hb dL_law_612 ?_
  refine lv_topi (fun z_5 ez_5 => ?_)
  have w_6 : z_1 = z_5 := ez_1.trans ez_5.symm
  subst w_6
  refine va_sld (i := z_1) hx hb hX hbl hbA hS (vp_in_iff.mpr ⟨by omega, by omega⟩) dL_law_613 ?_
  refine W.eq (g2 := F0 m 614 ls [.int w1, .ref mo]) (by rw [ew1, show z_1.toNatClampNeg = i.toInt.toNat + 1 from (show z_1.toInt.toNat = _ by omega)]) ?_
  refine lv_aload_n hx hb dL_law_614 rfl (lv_at hl 3 rfl) ?_
  refine lv_iload_n hx hb dL_law_615 rfl (lv_at hl 0 rfl) ?_
  refine lv_iconst (v := 2) hx hb dL_law_616 (by decide) ?_
  refine lv_iadd hx hb dL_law_617 ?_
  refine lv_topi (fun z_7 ez_7 => ?_)
  have w_8 : z_2 = z_7 := ez_2.trans ez_7.symm
  subst w_8
  refine va_sld (i := z_2) hx hb hX hbl hbA hS (vp_in_iff.mpr ⟨by omega, by omega⟩) dL_law_618 ?_
  refine W.eq (g2 := F0 m 619 ls [.int w2, .int w1, .ref mo]) (by rw [ew2, show z_2.toNatClampNeg = i.toInt.toNat + 2 from (show z_2.toInt.toNat = _ by omega)]) ?_
  refine lv_aload_n hx hb dL_law_619 rfl (lv_at hl 3 rfl) ?_
  refine lv_iload_n hx hb dL_law_620 rfl (lv_at hl 0 rfl) ?_
  refine lv_iconst (v := 3) hx hb dL_law_621 (by decide) ?_
  refine lv_iadd hx hb dL_law_622 ?_
  refine lv_topi (fun z_9 ez_9 => ?_)
  have w_10 : z_3 = z_9 := ez_3.trans ez_9.symm
  subst w_10
  refine va_sld (i := z_3) hx hb hX hbl hbA hS (vp_in_iff.mpr ⟨by omega, by omega⟩) dL_law_623 ?_
  refine W.eq (g2 := F0 m 624 ls [.int w3, .int w2, .int w1, .ref mo]) (by rw [ew3, show z_3.toNatClampNeg = i.toInt.toNat + 3 from (show z_3.toInt.toNat = _ by omega)]) ?_
  refine t_calli (runV (As := [.int w1, .int w2, .int w3]) (rest := []) ⟨hx, hb, hml, hown, hts⟩ (t_X10_wants l D cy base τ G mo h_mo w1 w2 w3) sV_L_63 hK (t_recv cf_11 hK hT h_mo) ⟨Nat.le_trans hZ hS.1, hT⟩ ⟨Nat.le_of_ble_eq_true rfl, Nat.le_of_ble_eq_true rfl⟩ rfl hl.1 rfl (Nat.le_of_ble_eq_true rfl) dL_law_624 ⟨by have q9 := hroom.1; omega, by have q9 := hroom.2; omega⟩) hS (fun r_11 G_11 H locs hF_11 hr_11 hT hS => ?_)
  have hF := hF.tr hF_11 rfl
  have hLI := hLI.fr EX.rf hF_11 rfl
  refine lv_pop hx hb dL_law_627 rfl ?_
  refine lv_goto (tgt := 2266) hx hb dL_law_628 (by decide) ?_
  exact W.widen (k := cells + 10) (n := slots + 200) (by omega) (by omega) (kk τ G_11 H locs ls hLI hT hS (lv_sub hl [0, 1, 2, 3] rfl))
set_option maxHeartbeats 4000000 in
set_option maxRecDepth 100000 in
theorem lc_11 {p : Program} {e : Env} {s : State} {m : MethodId} {below : List Frame} {meth : Method} {c : Code} {l : Launch} {b L : Nat} {xs : Nat → Int32} (D : va_G) (cy : Nat → ClassId) (adK adV : Nat → Nat) (base xo mo : Nat) (C0 : lw_At p s m meth c b L xs) (hK : KK D cy s) (hSS : SS adK adV base s s.heap) (hZ : base ≤ s.heap.size) (hZ2 : s.heap.size ≤ base) (hbA : ¬ RA base b) (hLs : L ≤ 3584) (τ : Nat → Nat) (G : Gh) (i : Int32) (hi0 : 0 ≤ i.toInt) (hi7 : i.toInt + 7 ≤ L) (hLI : LI τ G xo mo) {H : Heap} {locs : List Loc} (hT : TY D cy base τ G H) (hS : va_S (RA base) s.heap H locs) {ls : Array Slot} (hl : lv_has ls 4 [(3, .int i), (2, .ref mo), (1, .ref xo), (0, .ref b)]) {cells slots : Nat} (hroom : cells + 100 ≤ room_1.cells ∧ slots + 1000 ≤ room_1.slots) (kk : ∀ (τ1 : Nat → Nat) (G1 : Gh) (H1 : Heap) (locs1 : List Loc) (ls1 : Array Slot), LI τ1 G1 xo mo → TY D cy base τ1 G1 H1 → va_S (RA base) s.heap H1 locs1 → lv_has ls1 4 [(3, .int i), (2, .ref mo), (1, .ref xo), (0, .ref b)] → W p l e room_1 s m #[Value.ref b] below meth c H1 locs1 (cells + 10) (slots + 200) (lw_Z below #[Value.ref b] s) (F0 m 2266 ls1 [])) : W p l e room_1 s m #[Value.ref b] below meth c H locs cells slots (lw_Z below #[Value.ref b] s) (F0 m 631 ls []) := by
  obtain ⟨hx, hb, hr, hml, hown, hts, hX, hbl, hlocks, hgv⟩ := id C0
  have hown : s.vm.findClass RL = some m.cls := hown
  have hb : c.code = cL_law := hb
  have hts : ∀ w ∈ GW, w.before #[Value.ref b] s = true := fun w h => hts w (gw_tbl w h)
  have h_xo := hLI.1
  have h_mo := hLI.2.1
  have hF : Fr τ [1, 2, 3, 4, 6, 7, 11, 20, 25, 26, 27, 28, 29, 30, 31, 32, 33, 34, 35, 36, 37, 38, 39, 40, 51, 52, 53, 54, 55, 66, 67, 68, 69, 70, 71, 72, 73, 74, 75, 76, 77, 78, 79, 80, 81, 82, 83, 84, 85, 86, 87, 88, 89, 90, 91, 1001, 1002, 1004, 1023, 1024] G G := Fr.rf
  obtain ⟨w1, ew1⟩ : ∃ y : Int32, y = xs (i.toInt.toNat + 1) := ⟨_, rfl⟩
  obtain ⟨w2, ew2⟩ : ∃ y : Int32, y = xs (i.toInt.toNat + 2) := ⟨_, rfl⟩
  obtain ⟨w3, ew3⟩ : ∃ y : Int32, y = xs (i.toInt.toNat + 3) := ⟨_, rfl⟩
  refine lv_aload_n hx hb dL_law_631 rfl (lv_at hl 2 rfl) ?_
  refine lv_aload_n hx hb dL_law_632 rfl (lv_at hl 3 rfl) ?_
  refine lv_iload_n hx hb dL_law_633 rfl (lv_at hl 0 rfl) ?_
  refine lv_iconst (v := 1) hx hb dL_law_634 (by decide) ?_
  refine lv_iadd hx hb dL_law_635 ?_
  refine lv_topi (fun z_1 ez_1 => ?_)
  have tz_1 : z_1.toInt = i.toInt + 1 := add_t ez_1 (show -2147483648 ≤ i.toInt + 1 by omega) (show i.toInt + 1 < 2147483648 by omega)
  refine va_sld (i := z_1) hx hb hX hbl hbA hS (vp_in_iff.mpr ⟨by omega, by omega⟩) dL_law_636 ?_
  refine W.eq (g2 := F0 m 637 ls [.int w1, .ref xo]) (by rw [ew1, show z_1.toNatClampNeg = i.toInt.toNat + 1 from (show z_1.toInt.toNat = _ by omega)]) ?_
  refine lv_aload_n hx hb dL_law_637 rfl (lv_at hl 3 rfl) ?_
  refine lv_iload_n hx hb dL_law_638 rfl (lv_at hl 0 rfl) ?_
  refine lv_iconst (v := 2) hx hb dL_law_639 (by decide) ?_
  refine lv_iadd hx hb dL_law_640 ?_
  refine lv_topi (fun z_2 ez_2 => ?_)
  have tz_2 : z_2.toInt = i.toInt + 2 := add_t ez_2 (show -2147483648 ≤ i.toInt + 2 by omega) (show i.toInt + 2 < 2147483648 by omega)
  refine va_sld (i := z_2) hx hb hX hbl hbA hS (vp_in_iff.mpr ⟨by omega, by omega⟩) dL_law_641 ?_
  refine W.eq (g2 := F0 m 642 ls [.int w2, .int w1, .ref xo]) (by rw [ew2, show z_2.toNatClampNeg = i.toInt.toNat + 2 from (show z_2.toInt.toNat = _ by omega)]) ?_
  refine lv_aload_n hx hb dL_law_642 rfl (lv_at hl 3 rfl) ?_
  refine lv_iload_n hx hb dL_law_643 rfl (lv_at hl 0 rfl) ?_
  refine lv_iconst (v := 3) hx hb dL_law_644 (by decide) ?_
  refine lv_iadd hx hb dL_law_645 ?_
  refine lv_topi (fun z_3 ez_3 => ?_)
  have tz_3 : z_3.toInt = i.toInt + 3 := add_t ez_3 (show -2147483648 ≤ i.toInt + 3 by omega) (show i.toInt + 3 < 2147483648 by omega)
  refine va_sld (i := z_3) hx hb hX hbl hbA hS (vp_in_iff.mpr ⟨by omega, by omega⟩) dL_law_646 ?_
  refine W.eq (g2 := F0 m 647 ls [.int w3, .int w2, .int w1, .ref xo]) (by rw [ew3, show z_3.toNatClampNeg = i.toInt.toNat + 3 from (show z_3.toInt.toNat = _ by omega)]) ?_
  refine t_calll (runV (As := [.int w1, .int w2, .int w3]) (rest := []) ⟨hx, hb, hml, hown, hts⟩ (t_X9_cost l D cy base τ G xo h_xo w1 w2 w3) sV_L_64 hK (t_recv cf_1 hK hT h_xo) ⟨Nat.le_trans hZ hS.1, hT⟩ ⟨Nat.le_of_ble_eq_true rfl, Nat.le_of_ble_eq_true rfl⟩ rfl hl.1 rfl (Nat.le_of_ble_eq_true rfl) dL_law_647 ⟨by have q9 := hroom.1; omega, by have q9 := hroom.2; omega⟩) hS (fun r_4 G_4 H locs hF_4 hr_4 hT hS => ?_)
  have hF := hF.tr hF_4 rfl
  have hLI := hLI.fr EX.rf hF_4 rfl
  refine lv_pop2_2 hx hb dL_law_650 rfl ?_
  refine lv_aload_n hx hb dL_law_651 rfl (lv_at hl 1 rfl) ?_
  refine lv_aload_n hx hb dL_law_652 rfl (lv_at hl 3 rfl) ?_
  refine lv_iload_n hx hb dL_law_653 rfl (lv_at hl 0 rfl) ?_
  refine lv_iconst (v := 1) hx hb dL_law_654 (by decide) ?_
  refine lv_iadd hx hb dL_law_655 ?_
  refine lv_topi (fun z_5 ez_5 => ?_)
  have w_6 : z_1 = z_5 := ez_1.trans ez_5.symm
  subst w_6
  refine va_sld (i := z_1) hx hb hX hbl hbA hS (vp_in_iff.mpr ⟨by omega, by omega⟩) dL_law_656 ?_
  refine W.eq (g2 := F0 m 657 ls [.int w1, .ref mo]) (by rw [ew1, show z_1.toNatClampNeg = i.toInt.toNat + 1 from (show z_1.toInt.toNat = _ by omega)]) ?_
  refine lv_aload_n hx hb dL_law_657 rfl (lv_at hl 3 rfl) ?_
  refine lv_iload_n hx hb dL_law_658 rfl (lv_at hl 0 rfl) ?_
  refine lv_iconst (v := 2) hx hb dL_law_659 (by decide) ?_
  refine lv_iadd hx hb dL_law_660 ?_
  refine lv_topi (fun z_7 ez_7 => ?_)
  have w_8 : z_2 = z_7 := ez_2.trans ez_7.symm
  subst w_8
  refine va_sld (i := z_2) hx hb hX hbl hbA hS (vp_in_iff.mpr ⟨by omega, by omega⟩) dL_law_661 ?_
  refine W.eq (g2 := F0 m 662 ls [.int w2, .int w1, .ref mo]) (by rw [ew2, show z_2.toNatClampNeg = i.toInt.toNat + 2 from (show z_2.toInt.toNat = _ by omega)]) ?_
  refine lv_aload_n hx hb dL_law_662 rfl (lv_at hl 3 rfl) ?_
  refine lv_iload_n hx hb dL_law_663 rfl (lv_at hl 0 rfl) ?_
  refine lv_iconst (v := 3) hx hb dL_law_664 (by decide) ?_
  refine lv_iadd hx hb dL_law_665 ?_
  refine lv_topi (fun z_9 ez_9 => ?_)
  have w_10 : z_3 = z_9 := ez_3.trans ez_9.symm
  subst w_10
  refine va_sld (i := z_3) hx hb hX hbl hbA hS (vp_in_iff.mpr ⟨by omega, by omega⟩) dL_law_666 ?_
  refine W.eq (g2 := F0 m 667 ls [.int w3, .int w2, .int w1, .ref mo]) (by rw [ew3, show z_3.toNatClampNeg = i.toInt.toNat + 3 from (show z_3.toInt.toNat = _ by omega)]) ?_
  refine t_calll (runV (As := [.int w1, .int w2, .int w3]) (rest := []) ⟨hx, hb, hml, hown, hts⟩ (t_X10_cost l D cy base τ G_4 mo h_mo w1 w2 w3) sV_L_68 hK (t_recv cf_11 hK hT h_mo) ⟨Nat.le_trans hZ hS.1, hT⟩ ⟨Nat.le_of_ble_eq_true rfl, Nat.le_of_ble_eq_true rfl⟩ rfl hl.1 rfl (Nat.le_of_ble_eq_true rfl) dL_law_667 ⟨by have q9 := hroom.1; omega, by have q9 := hroom.2; omega⟩) hS (fun r_11 G_11 H locs hF_11 hr_11 hT hS => ?_)
  have hF := hF.tr hF_11 rfl
  have hLI := hLI.fr EX.rf hF_11 rfl
  refine lv_pop2_2 hx hb dL_law_670 rfl ?_
  refine lv_goto (tgt := 2266) hx hb dL_law_671 (by decide) ?_
  exact W.widen (k := cells + 10) (n := slots + 200) (by omega) (by omega) (kk τ G_11 H locs ls hLI hT hS (lv_sub hl [0, 1, 2, 3] rfl))
set_option maxHeartbeats 4000000 in
set_option maxRecDepth 100000 in
theorem lc_12 {p : Program} {e : Env} {s : State} {m : MethodId} {below : List Frame} {meth : Method} {c : Code} {l : Launch} {b L : Nat} {xs : Nat → Int32} (D : va_G) (cy : Nat → ClassId) (adK adV : Nat → Nat) (base xo mo : Nat) (C0 : lw_At p s m meth c b L xs) (hK : KK D cy s) (hSS : SS adK adV base s s.heap) (hZ : base ≤ s.heap.size) (hZ2 : s.heap.size ≤ base) (hbA : ¬ RA base b) (hLs : L ≤ 3584) (τ : Nat → Nat) (G : Gh) (i : Int32) (hi0 : 0 ≤ i.toInt) (hi7 : i.toInt + 7 ≤ L) (hLI : LI τ G xo mo) {H : Heap} {locs : List Loc} (hT : TY D cy base τ G H) (hS : va_S (RA base) s.heap H locs) {ls : Array Slot} (hl : lv_has ls 4 [(3, .int i), (2, .ref mo), (1, .ref xo), (0, .ref b)]) {cells slots : Nat} (hroom : cells + 100 ≤ room_1.cells ∧ slots + 1000 ≤ room_1.slots) (kk : ∀ (τ1 : Nat → Nat) (G1 : Gh) (H1 : Heap) (locs1 : List Loc) (ls1 : Array Slot), LI τ1 G1 xo mo → TY D cy base τ1 G1 H1 → va_S (RA base) s.heap H1 locs1 → lv_has ls1 4 [(3, .int i), (2, .ref mo), (1, .ref xo), (0, .ref b)] → W p l e room_1 s m #[Value.ref b] below meth c H1 locs1 (cells + 10) (slots + 200) (lw_Z below #[Value.ref b] s) (F0 m 2266 ls1 [])) : W p l e room_1 s m #[Value.ref b] below meth c H locs cells slots (lw_Z below #[Value.ref b] s) (F0 m 674 ls []) := by
  obtain ⟨hx, hb, hr, hml, hown, hts, hX, hbl, hlocks, hgv⟩ := id C0
  have hown : s.vm.findClass RL = some m.cls := hown
  have hb : c.code = cL_law := hb
  have hts : ∀ w ∈ GW, w.before #[Value.ref b] s = true := fun w h => hts w (gw_tbl w h)
  have h_xo := hLI.1
  have h_mo := hLI.2.1
  have hF : Fr τ [1, 2, 3, 4, 6, 7, 11, 20, 25, 26, 27, 28, 29, 30, 31, 32, 33, 34, 35, 36, 37, 38, 39, 40, 51, 52, 53, 54, 55, 66, 67, 68, 69, 70, 71, 72, 73, 74, 75, 76, 77, 78, 79, 80, 81, 82, 83, 84, 85, 86, 87, 88, 89, 90, 91, 1001, 1002, 1004, 1023, 1024] G G := Fr.rf
  obtain ⟨w1, ew1⟩ : ∃ y : Int32, y = xs (i.toInt.toNat + 1) := ⟨_, rfl⟩
  obtain ⟨w2, ew2⟩ : ∃ y : Int32, y = xs (i.toInt.toNat + 2) := ⟨_, rfl⟩
  obtain ⟨w3, ew3⟩ : ∃ y : Int32, y = xs (i.toInt.toNat + 3) := ⟨_, rfl⟩
  refine lv_aload_n hx hb dL_law_674 rfl (lv_at hl 2 rfl) ?_
  refine lv_aload_n hx hb dL_law_675 rfl (lv_at hl 3 rfl) ?_
  refine lv_iload_n hx hb dL_law_676 rfl (lv_at hl 0 rfl) ?_
  refine lv_iconst (v := 1) hx hb dL_law_677 (by decide) ?_
  refine lv_iadd hx hb dL_law_678 ?_
  refine lv_topi (fun z_1 ez_1 => ?_)
  have tz_1 : z_1.toInt = i.toInt + 1 := add_t ez_1 (show -2147483648 ≤ i.toInt + 1 by omega) (show i.toInt + 1 < 2147483648 by omega)
  refine va_sld (i := z_1) hx hb hX hbl hbA hS (vp_in_iff.mpr ⟨by omega, by omega⟩) dL_law_679 ?_
  refine W.eq (g2 := F0 m 680 ls [.int w1, .ref xo]) (by rw [ew1, show z_1.toNatClampNeg = i.toInt.toNat + 1 from (show z_1.toInt.toNat = _ by omega)]) ?_
  refine lv_aload_n hx hb dL_law_680 rfl (lv_at hl 3 rfl) ?_
  refine lv_iload_n hx hb dL_law_681 rfl (lv_at hl 0 rfl) ?_
  refine lv_iconst (v := 2) hx hb dL_law_682 (by decide) ?_
  refine lv_iadd hx hb dL_law_683 ?_
  refine lv_topi (fun z_2 ez_2 => ?_)
  have tz_2 : z_2.toInt = i.toInt + 2 := add_t ez_2 (show -2147483648 ≤ i.toInt + 2 by omega) (show i.toInt + 2 < 2147483648 by omega)
  refine va_sld (i := z_2) hx hb hX hbl hbA hS (vp_in_iff.mpr ⟨by omega, by omega⟩) dL_law_684 ?_
  refine W.eq (g2 := F0 m 685 ls [.int w2, .int w1, .ref xo]) (by rw [ew2, show z_2.toNatClampNeg = i.toInt.toNat + 2 from (show z_2.toInt.toNat = _ by omega)]) ?_
  refine lv_aload_n hx hb dL_law_685 rfl (lv_at hl 3 rfl) ?_
  refine lv_iload_n hx hb dL_law_686 rfl (lv_at hl 0 rfl) ?_
  refine lv_iconst (v := 3) hx hb dL_law_687 (by decide) ?_
  refine lv_iadd hx hb dL_law_688 ?_
  refine lv_topi (fun z_3 ez_3 => ?_)
  have tz_3 : z_3.toInt = i.toInt + 3 := add_t ez_3 (show -2147483648 ≤ i.toInt + 3 by omega) (show i.toInt + 3 < 2147483648 by omega)
  refine va_sld (i := z_3) hx hb hX hbl hbA hS (vp_in_iff.mpr ⟨by omega, by omega⟩) dL_law_689 ?_
  refine W.eq (g2 := F0 m 690 ls [.int w3, .int w2, .int w1, .ref xo]) (by rw [ew3, show z_3.toNatClampNeg = i.toInt.toNat + 3 from (show z_3.toInt.toNat = _ by omega)]) ?_
  refine t_calll (runV (As := [.int w1, .int w2, .int w3]) (rest := []) ⟨hx, hb, hml, hown, hts⟩ (t_X9_worth l D cy base τ G xo h_xo w1 w2 w3) sV_L_69 hK (t_recv cf_1 hK hT h_xo) ⟨Nat.le_trans hZ hS.1, hT⟩ ⟨Nat.le_of_ble_eq_true rfl, Nat.le_of_ble_eq_true rfl⟩ rfl hl.1 rfl (Nat.le_of_ble_eq_true rfl) dL_law_690 ⟨by have q9 := hroom.1; omega, by have q9 := hroom.2; omega⟩) hS (fun r_4 G_4 H locs hF_4 hr_4 hT hS => ?_)
  have hF := hF.tr hF_4 rfl
  have hLI := hLI.fr EX.rf hF_4 rfl
  refine lv_pop2_2 hx hb dL_law_693 rfl ?_
  refine lv_aload_n hx hb dL_law_694 rfl (lv_at hl 1 rfl) ?_
  refine lv_aload_n hx hb dL_law_695 rfl (lv_at hl 3 rfl) ?_
  refine lv_iload_n hx hb dL_law_696 rfl (lv_at hl 0 rfl) ?_
  refine lv_iconst (v := 1) hx hb dL_law_697 (by decide) ?_
  refine lv_iadd hx hb dL_law_698 ?_
  refine lv_topi (fun z_5 ez_5 => ?_)
  have w_6 : z_1 = z_5 := ez_1.trans ez_5.symm
  subst w_6
  refine va_sld (i := z_1) hx hb hX hbl hbA hS (vp_in_iff.mpr ⟨by omega, by omega⟩) dL_law_699 ?_
  refine W.eq (g2 := F0 m 700 ls [.int w1, .ref mo]) (by rw [ew1, show z_1.toNatClampNeg = i.toInt.toNat + 1 from (show z_1.toInt.toNat = _ by omega)]) ?_
  refine lv_aload_n hx hb dL_law_700 rfl (lv_at hl 3 rfl) ?_
  refine lv_iload_n hx hb dL_law_701 rfl (lv_at hl 0 rfl) ?_
  refine lv_iconst (v := 2) hx hb dL_law_702 (by decide) ?_
  refine lv_iadd hx hb dL_law_703 ?_
  refine lv_topi (fun z_7 ez_7 => ?_)
  have w_8 : z_2 = z_7 := ez_2.trans ez_7.symm
  subst w_8
  refine va_sld (i := z_2) hx hb hX hbl hbA hS (vp_in_iff.mpr ⟨by omega, by omega⟩) dL_law_704 ?_
  refine W.eq (g2 := F0 m 705 ls [.int w2, .int w1, .ref mo]) (by rw [ew2, show z_2.toNatClampNeg = i.toInt.toNat + 2 from (show z_2.toInt.toNat = _ by omega)]) ?_
  refine lv_aload_n hx hb dL_law_705 rfl (lv_at hl 3 rfl) ?_
  refine lv_iload_n hx hb dL_law_706 rfl (lv_at hl 0 rfl) ?_
  refine lv_iconst (v := 3) hx hb dL_law_707 (by decide) ?_
  refine lv_iadd hx hb dL_law_708 ?_
  refine lv_topi (fun z_9 ez_9 => ?_)
  have w_10 : z_3 = z_9 := ez_3.trans ez_9.symm
  subst w_10
  refine va_sld (i := z_3) hx hb hX hbl hbA hS (vp_in_iff.mpr ⟨by omega, by omega⟩) dL_law_709 ?_
  refine W.eq (g2 := F0 m 710 ls [.int w3, .int w2, .int w1, .ref mo]) (by rw [ew3, show z_3.toNatClampNeg = i.toInt.toNat + 3 from (show z_3.toInt.toNat = _ by omega)]) ?_
  refine t_calll (runV (As := [.int w1, .int w2, .int w3]) (rest := []) ⟨hx, hb, hml, hown, hts⟩ (t_X10_worth l D cy base τ G_4 mo h_mo w1 w2 w3) sV_L_72 hK (t_recv cf_11 hK hT h_mo) ⟨Nat.le_trans hZ hS.1, hT⟩ ⟨Nat.le_of_ble_eq_true rfl, Nat.le_of_ble_eq_true rfl⟩ rfl hl.1 rfl (Nat.le_of_ble_eq_true rfl) dL_law_710 ⟨by have q9 := hroom.1; omega, by have q9 := hroom.2; omega⟩) hS (fun r_11 G_11 H locs hF_11 hr_11 hT hS => ?_)
  have hF := hF.tr hF_11 rfl
  have hLI := hLI.fr EX.rf hF_11 rfl
  refine lv_pop2_2 hx hb dL_law_713 rfl ?_
  refine lv_goto (tgt := 2266) hx hb dL_law_714 (by decide) ?_
  exact W.widen (k := cells + 10) (n := slots + 200) (by omega) (by omega) (kk τ G_11 H locs ls hLI hT hS (lv_sub hl [0, 1, 2, 3] rfl))
set_option maxHeartbeats 4000000 in
set_option maxRecDepth 100000 in
theorem lc_13 {p : Program} {e : Env} {s : State} {m : MethodId} {below : List Frame} {meth : Method} {c : Code} {l : Launch} {b L : Nat} {xs : Nat → Int32} (D : va_G) (cy : Nat → ClassId) (adK adV : Nat → Nat) (base xo mo : Nat) (C0 : lw_At p s m meth c b L xs) (hK : KK D cy s) (hSS : SS adK adV base s s.heap) (hZ : base ≤ s.heap.size) (hZ2 : s.heap.size ≤ base) (hbA : ¬ RA base b) (hLs : L ≤ 3584) (τ : Nat → Nat) (G : Gh) (i : Int32) (hi0 : 0 ≤ i.toInt) (hi7 : i.toInt + 7 ≤ L) (hLI : LI τ G xo mo) {H : Heap} {locs : List Loc} (hT : TY D cy base τ G H) (hS : va_S (RA base) s.heap H locs) {ls : Array Slot} (hl : lv_has ls 4 [(3, .int i), (2, .ref mo), (1, .ref xo), (0, .ref b)]) {cells slots : Nat} (hroom : cells + 100 ≤ room_1.cells ∧ slots + 1000 ≤ room_1.slots) (kk : ∀ (τ1 : Nat → Nat) (G1 : Gh) (H1 : Heap) (locs1 : List Loc) (ls1 : Array Slot), LI τ1 G1 xo mo → TY D cy base τ1 G1 H1 → va_S (RA base) s.heap H1 locs1 → lv_has ls1 4 [(3, .int i), (2, .ref mo), (1, .ref xo), (0, .ref b)] → W p l e room_1 s m #[Value.ref b] below meth c H1 locs1 (cells + 10) (slots + 200) (lw_Z below #[Value.ref b] s) (F0 m 2266 ls1 [])) : W p l e room_1 s m #[Value.ref b] below meth c H locs cells slots (lw_Z below #[Value.ref b] s) (F0 m 717 ls []) := by
  obtain ⟨hx, hb, hr, hml, hown, hts, hX, hbl, hlocks, hgv⟩ := id C0
  have hown : s.vm.findClass RL = some m.cls := hown
  have hb : c.code = cL_law := hb
  have hts : ∀ w ∈ GW, w.before #[Value.ref b] s = true := fun w h => hts w (gw_tbl w h)
  have h_xo := hLI.1
  have h_mo := hLI.2.1
  have hF : Fr τ [1, 2, 3, 4, 6, 7, 11, 20, 25, 26, 27, 28, 29, 30, 31, 32, 33, 34, 35, 36, 37, 38, 39, 40, 51, 52, 53, 54, 55, 66, 67, 68, 69, 70, 71, 72, 73, 74, 75, 76, 77, 78, 79, 80, 81, 82, 83, 84, 85, 86, 87, 88, 89, 90, 91, 1001, 1002, 1004, 1023, 1024] G G := Fr.rf
  obtain ⟨w1, ew1⟩ : ∃ y : Int32, y = xs (i.toInt.toNat + 1) := ⟨_, rfl⟩
  obtain ⟨w2, ew2⟩ : ∃ y : Int32, y = xs (i.toInt.toNat + 2) := ⟨_, rfl⟩
  refine lv_aload_n hx hb dL_law_717 rfl (lv_at hl 2 rfl) ?_
  refine lv_aload_n hx hb dL_law_718 rfl (lv_at hl 3 rfl) ?_
  refine lv_iload_n hx hb dL_law_719 rfl (lv_at hl 0 rfl) ?_
  refine lv_iconst (v := 1) hx hb dL_law_720 (by decide) ?_
  refine lv_iadd hx hb dL_law_721 ?_
  refine lv_topi (fun z_1 ez_1 => ?_)
  have tz_1 : z_1.toInt = i.toInt + 1 := add_t ez_1 (show -2147483648 ≤ i.toInt + 1 by omega) (show i.toInt + 1 < 2147483648 by omega)
  refine va_sld (i := z_1) hx hb hX hbl hbA hS (vp_in_iff.mpr ⟨by omega, by omega⟩) dL_law_722 ?_
  refine W.eq (g2 := F0 m 723 ls [.int w1, .ref xo]) (by rw [ew1, show z_1.toNatClampNeg = i.toInt.toNat + 1 from (show z_1.toInt.toNat = _ by omega)]) ?_
  refine lv_aload_n hx hb dL_law_723 rfl (lv_at hl 3 rfl) ?_
  refine lv_iload_n hx hb dL_law_724 rfl (lv_at hl 0 rfl) ?_
  refine lv_iconst (v := 2) hx hb dL_law_725 (by decide) ?_
  refine lv_iadd hx hb dL_law_726 ?_
  refine lv_topi (fun z_2 ez_2 => ?_)
  have tz_2 : z_2.toInt = i.toInt + 2 := add_t ez_2 (show -2147483648 ≤ i.toInt + 2 by omega) (show i.toInt + 2 < 2147483648 by omega)
  refine va_sld (i := z_2) hx hb hX hbl hbA hS (vp_in_iff.mpr ⟨by omega, by omega⟩) dL_law_727 ?_
  refine W.eq (g2 := F0 m 728 ls [.int w2, .int w1, .ref xo]) (by rw [ew2, show z_2.toNatClampNeg = i.toInt.toNat + 2 from (show z_2.toInt.toNat = _ by omega)]) ?_
  refine t_calli (runV (As := [.int w1, .int w2]) (rest := []) ⟨hx, hb, hml, hown, hts⟩ (t_X9_best l D cy base τ G xo h_xo w1 w2) sV_L_73 hK (t_recv cf_1 hK hT h_xo) ⟨Nat.le_trans hZ hS.1, hT⟩ ⟨Nat.le_of_ble_eq_true rfl, Nat.le_of_ble_eq_true rfl⟩ rfl hl.1 rfl (Nat.le_of_ble_eq_true rfl) dL_law_728 ⟨by have q9 := hroom.1; omega, by have q9 := hroom.2; omega⟩) hS (fun r_3 G_3 H locs hF_3 hr_3 hT hS => ?_)
  have hF := hF.tr hF_3 rfl
  have hLI := hLI.fr EX.rf hF_3 rfl
  refine lv_pop hx hb dL_law_731 rfl ?_
  refine lv_aload_n hx hb dL_law_732 rfl (lv_at hl 1 rfl) ?_
  refine lv_aload_n hx hb dL_law_733 rfl (lv_at hl 3 rfl) ?_
  refine lv_iload_n hx hb dL_law_734 rfl (lv_at hl 0 rfl) ?_
  refine lv_iconst (v := 1) hx hb dL_law_735 (by decide) ?_
  refine lv_iadd hx hb dL_law_736 ?_
  refine lv_topi (fun z_4 ez_4 => ?_)
  have w_5 : z_1 = z_4 := ez_1.trans ez_4.symm
  subst w_5
  refine va_sld (i := z_1) hx hb hX hbl hbA hS (vp_in_iff.mpr ⟨by omega, by omega⟩) dL_law_737 ?_
  refine W.eq (g2 := F0 m 738 ls [.int w1, .ref mo]) (by rw [ew1, show z_1.toNatClampNeg = i.toInt.toNat + 1 from (show z_1.toInt.toNat = _ by omega)]) ?_
  refine lv_aload_n hx hb dL_law_738 rfl (lv_at hl 3 rfl) ?_
  refine lv_iload_n hx hb dL_law_739 rfl (lv_at hl 0 rfl) ?_
  refine lv_iconst (v := 2) hx hb dL_law_740 (by decide) ?_
  refine lv_iadd hx hb dL_law_741 ?_
  refine lv_topi (fun z_6 ez_6 => ?_)
  have w_7 : z_2 = z_6 := ez_2.trans ez_6.symm
  subst w_7
  refine va_sld (i := z_2) hx hb hX hbl hbA hS (vp_in_iff.mpr ⟨by omega, by omega⟩) dL_law_742 ?_
  refine W.eq (g2 := F0 m 743 ls [.int w2, .int w1, .ref mo]) (by rw [ew2, show z_2.toNatClampNeg = i.toInt.toNat + 2 from (show z_2.toInt.toNat = _ by omega)]) ?_
  refine t_calli (runV (As := [.int w1, .int w2]) (rest := []) ⟨hx, hb, hml, hown, hts⟩ (t_X10_best l D cy base τ G_3 mo h_mo w1 w2) sV_L_76 hK (t_recv cf_11 hK hT h_mo) ⟨Nat.le_trans hZ hS.1, hT⟩ ⟨Nat.le_of_ble_eq_true rfl, Nat.le_of_ble_eq_true rfl⟩ rfl hl.1 rfl (Nat.le_of_ble_eq_true rfl) dL_law_743 ⟨by have q9 := hroom.1; omega, by have q9 := hroom.2; omega⟩) hS (fun r_8 G_8 H locs hF_8 hr_8 hT hS => ?_)
  have hF := hF.tr hF_8 rfl
  have hLI := hLI.fr EX.rf hF_8 rfl
  refine lv_pop hx hb dL_law_746 rfl ?_
  refine lv_goto (tgt := 2266) hx hb dL_law_747 (by decide) ?_
  exact W.widen (k := cells + 10) (n := slots + 200) (by omega) (by omega) (kk τ G_8 H locs ls hLI hT hS (lv_sub hl [0, 1, 2, 3] rfl))
set_option maxHeartbeats 4000000 in
set_option maxRecDepth 100000 in
theorem lc_14 {p : Program} {e : Env} {s : State} {m : MethodId} {below : List Frame} {meth : Method} {c : Code} {l : Launch} {b L : Nat} {xs : Nat → Int32} (D : va_G) (cy : Nat → ClassId) (adK adV : Nat → Nat) (base xo mo : Nat) (C0 : lw_At p s m meth c b L xs) (hK : KK D cy s) (hSS : SS adK adV base s s.heap) (hZ : base ≤ s.heap.size) (hZ2 : s.heap.size ≤ base) (hbA : ¬ RA base b) (hLs : L ≤ 3584) (τ : Nat → Nat) (G : Gh) (i : Int32) (hi0 : 0 ≤ i.toInt) (hi7 : i.toInt + 7 ≤ L) (hLI : LI τ G xo mo) {H : Heap} {locs : List Loc} (hT : TY D cy base τ G H) (hS : va_S (RA base) s.heap H locs) {ls : Array Slot} (hl : lv_has ls 4 [(3, .int i), (2, .ref mo), (1, .ref xo), (0, .ref b)]) {cells slots : Nat} (hroom : cells + 100 ≤ room_1.cells ∧ slots + 1000 ≤ room_1.slots) (kk : ∀ (τ1 : Nat → Nat) (G1 : Gh) (H1 : Heap) (locs1 : List Loc) (ls1 : Array Slot), LI τ1 G1 xo mo → TY D cy base τ1 G1 H1 → va_S (RA base) s.heap H1 locs1 → lv_has ls1 4 [(3, .int i), (2, .ref mo), (1, .ref xo), (0, .ref b)] → W p l e room_1 s m #[Value.ref b] below meth c H1 locs1 (cells + 10) (slots + 200) (lw_Z below #[Value.ref b] s) (F0 m 2266 ls1 [])) : W p l e room_1 s m #[Value.ref b] below meth c H locs cells slots (lw_Z below #[Value.ref b] s) (F0 m 750 ls []) := by
  obtain ⟨hx, hb, hr, hml, hown, hts, hX, hbl, hlocks, hgv⟩ := id C0
  have hown : s.vm.findClass RL = some m.cls := hown
  have hb : c.code = cL_law := hb
  have hts : ∀ w ∈ GW, w.before #[Value.ref b] s = true := fun w h => hts w (gw_tbl w h)
  have h_xo := hLI.1
  have h_mo := hLI.2.1
  have hF : Fr τ [1, 2, 3, 4, 6, 7, 11, 20, 25, 26, 27, 28, 29, 30, 31, 32, 33, 34, 35, 36, 37, 38, 39, 40, 51, 52, 53, 54, 55, 66, 67, 68, 69, 70, 71, 72, 73, 74, 75, 76, 77, 78, 79, 80, 81, 82, 83, 84, 85, 86, 87, 88, 89, 90, 91, 1001, 1002, 1004, 1023, 1024] G G := Fr.rf
  obtain ⟨w1, ew1⟩ : ∃ y : Int32, y = xs (i.toInt.toNat + 1) := ⟨_, rfl⟩
  obtain ⟨w2, ew2⟩ : ∃ y : Int32, y = xs (i.toInt.toNat + 2) := ⟨_, rfl⟩
  obtain ⟨w3, ew3⟩ : ∃ y : Int32, y = xs (i.toInt.toNat + 3) := ⟨_, rfl⟩
  refine lv_aload_n hx hb dL_law_750 rfl (lv_at hl 2 rfl) ?_
  refine lv_aload_n hx hb dL_law_751 rfl (lv_at hl 3 rfl) ?_
  refine lv_iload_n hx hb dL_law_752 rfl (lv_at hl 0 rfl) ?_
  refine lv_iconst (v := 1) hx hb dL_law_753 (by decide) ?_
  refine lv_iadd hx hb dL_law_754 ?_
  refine lv_topi (fun z_1 ez_1 => ?_)
  have tz_1 : z_1.toInt = i.toInt + 1 := add_t ez_1 (show -2147483648 ≤ i.toInt + 1 by omega) (show i.toInt + 1 < 2147483648 by omega)
  refine va_sld (i := z_1) hx hb hX hbl hbA hS (vp_in_iff.mpr ⟨by omega, by omega⟩) dL_law_755 ?_
  refine W.eq (g2 := F0 m 756 ls [.int w1, .ref xo]) (by rw [ew1, show z_1.toNatClampNeg = i.toInt.toNat + 1 from (show z_1.toInt.toNat = _ by omega)]) ?_
  refine lv_aload_n hx hb dL_law_756 rfl (lv_at hl 3 rfl) ?_
  refine lv_iload_n hx hb dL_law_757 rfl (lv_at hl 0 rfl) ?_
  refine lv_iconst (v := 2) hx hb dL_law_758 (by decide) ?_
  refine lv_iadd hx hb dL_law_759 ?_
  refine lv_topi (fun z_2 ez_2 => ?_)
  have tz_2 : z_2.toInt = i.toInt + 2 := add_t ez_2 (show -2147483648 ≤ i.toInt + 2 by omega) (show i.toInt + 2 < 2147483648 by omega)
  refine va_sld (i := z_2) hx hb hX hbl hbA hS (vp_in_iff.mpr ⟨by omega, by omega⟩) dL_law_760 ?_
  refine W.eq (g2 := F0 m 761 ls [.int w2, .int w1, .ref xo]) (by rw [ew2, show z_2.toNatClampNeg = i.toInt.toNat + 2 from (show z_2.toInt.toNat = _ by omega)]) ?_
  refine lv_aload_n hx hb dL_law_761 rfl (lv_at hl 3 rfl) ?_
  refine lv_iload_n hx hb dL_law_762 rfl (lv_at hl 0 rfl) ?_
  refine lv_iconst (v := 3) hx hb dL_law_763 (by decide) ?_
  refine lv_iadd hx hb dL_law_764 ?_
  refine lv_topi (fun z_3 ez_3 => ?_)
  have tz_3 : z_3.toInt = i.toInt + 3 := add_t ez_3 (show -2147483648 ≤ i.toInt + 3 by omega) (show i.toInt + 3 < 2147483648 by omega)
  refine va_sld (i := z_3) hx hb hX hbl hbA hS (vp_in_iff.mpr ⟨by omega, by omega⟩) dL_law_765 ?_
  refine W.eq (g2 := F0 m 766 ls [.int w3, .int w2, .int w1, .ref xo]) (by rw [ew3, show z_3.toNatClampNeg = i.toInt.toNat + 3 from (show z_3.toInt.toNat = _ by omega)]) ?_
  refine t_calll (runV (As := [.int w1, .int w2, .int w3]) (rest := []) ⟨hx, hb, hml, hown, hts⟩ (t_X9_sure l D cy base τ G xo h_xo w1 w2 w3) sV_L_77 hK (t_recv cf_1 hK hT h_xo) ⟨Nat.le_trans hZ hS.1, hT⟩ ⟨Nat.le_of_ble_eq_true rfl, Nat.le_of_ble_eq_true rfl⟩ rfl hl.1 rfl (Nat.le_of_ble_eq_true rfl) dL_law_766 ⟨by have q9 := hroom.1; omega, by have q9 := hroom.2; omega⟩) hS (fun r_4 G_4 H locs hF_4 hr_4 hT hS => ?_)
  have hF := hF.tr hF_4 rfl
  have hLI := hLI.fr EX.rf hF_4 rfl
  refine lv_pop2_2 hx hb dL_law_769 rfl ?_
  refine lv_aload_n hx hb dL_law_770 rfl (lv_at hl 1 rfl) ?_
  refine lv_aload_n hx hb dL_law_771 rfl (lv_at hl 3 rfl) ?_
  refine lv_iload_n hx hb dL_law_772 rfl (lv_at hl 0 rfl) ?_
  refine lv_iconst (v := 1) hx hb dL_law_773 (by decide) ?_
  refine lv_iadd hx hb dL_law_774 ?_
  refine lv_topi (fun z_5 ez_5 => ?_)
  have w_6 : z_1 = z_5 := ez_1.trans ez_5.symm
  subst w_6
  refine va_sld (i := z_1) hx hb hX hbl hbA hS (vp_in_iff.mpr ⟨by omega, by omega⟩) dL_law_775 ?_
  refine W.eq (g2 := F0 m 776 ls [.int w1, .ref mo]) (by rw [ew1, show z_1.toNatClampNeg = i.toInt.toNat + 1 from (show z_1.toInt.toNat = _ by omega)]) ?_
  refine lv_aload_n hx hb dL_law_776 rfl (lv_at hl 3 rfl) ?_
  refine lv_iload_n hx hb dL_law_777 rfl (lv_at hl 0 rfl) ?_
  refine lv_iconst (v := 2) hx hb dL_law_778 (by decide) ?_
  refine lv_iadd hx hb dL_law_779 ?_
  refine lv_topi (fun z_7 ez_7 => ?_)
  have w_8 : z_2 = z_7 := ez_2.trans ez_7.symm
  subst w_8
  refine va_sld (i := z_2) hx hb hX hbl hbA hS (vp_in_iff.mpr ⟨by omega, by omega⟩) dL_law_780 ?_
  refine W.eq (g2 := F0 m 781 ls [.int w2, .int w1, .ref mo]) (by rw [ew2, show z_2.toNatClampNeg = i.toInt.toNat + 2 from (show z_2.toInt.toNat = _ by omega)]) ?_
  refine lv_aload_n hx hb dL_law_781 rfl (lv_at hl 3 rfl) ?_
  refine lv_iload_n hx hb dL_law_782 rfl (lv_at hl 0 rfl) ?_
  refine lv_iconst (v := 3) hx hb dL_law_783 (by decide) ?_
  refine lv_iadd hx hb dL_law_784 ?_
  refine lv_topi (fun z_9 ez_9 => ?_)
  have w_10 : z_3 = z_9 := ez_3.trans ez_9.symm
  subst w_10
  refine va_sld (i := z_3) hx hb hX hbl hbA hS (vp_in_iff.mpr ⟨by omega, by omega⟩) dL_law_785 ?_
  refine W.eq (g2 := F0 m 786 ls [.int w3, .int w2, .int w1, .ref mo]) (by rw [ew3, show z_3.toNatClampNeg = i.toInt.toNat + 3 from (show z_3.toInt.toNat = _ by omega)]) ?_
  refine t_calll (runV (As := [.int w1, .int w2, .int w3]) (rest := []) ⟨hx, hb, hml, hown, hts⟩ (t_X10_sure l D cy base τ G_4 mo h_mo w1 w2 w3) sV_L_80 hK (t_recv cf_11 hK hT h_mo) ⟨Nat.le_trans hZ hS.1, hT⟩ ⟨Nat.le_of_ble_eq_true rfl, Nat.le_of_ble_eq_true rfl⟩ rfl hl.1 rfl (Nat.le_of_ble_eq_true rfl) dL_law_786 ⟨by have q9 := hroom.1; omega, by have q9 := hroom.2; omega⟩) hS (fun r_11 G_11 H locs hF_11 hr_11 hT hS => ?_)
  have hF := hF.tr hF_11 rfl
  have hLI := hLI.fr EX.rf hF_11 rfl
  refine lv_pop2_2 hx hb dL_law_789 rfl ?_
  refine lv_goto (tgt := 2266) hx hb dL_law_790 (by decide) ?_
  exact W.widen (k := cells + 10) (n := slots + 200) (by omega) (by omega) (kk τ G_11 H locs ls hLI hT hS (lv_sub hl [0, 1, 2, 3] rfl))
set_option maxHeartbeats 4000000 in
set_option maxRecDepth 100000 in
theorem lc_15 {p : Program} {e : Env} {s : State} {m : MethodId} {below : List Frame} {meth : Method} {c : Code} {l : Launch} {b L : Nat} {xs : Nat → Int32} (D : va_G) (cy : Nat → ClassId) (adK adV : Nat → Nat) (base xo mo : Nat) (C0 : lw_At p s m meth c b L xs) (hK : KK D cy s) (hSS : SS adK adV base s s.heap) (hZ : base ≤ s.heap.size) (hZ2 : s.heap.size ≤ base) (hbA : ¬ RA base b) (hLs : L ≤ 3584) (τ : Nat → Nat) (G : Gh) (i : Int32) (hi0 : 0 ≤ i.toInt) (hi7 : i.toInt + 7 ≤ L) (hLI : LI τ G xo mo) {H : Heap} {locs : List Loc} (hT : TY D cy base τ G H) (hS : va_S (RA base) s.heap H locs) {ls : Array Slot} (hl : lv_has ls 4 [(3, .int i), (2, .ref mo), (1, .ref xo), (0, .ref b)]) {cells slots : Nat} (hroom : cells + 100 ≤ room_1.cells ∧ slots + 1000 ≤ room_1.slots) (kk : ∀ (τ1 : Nat → Nat) (G1 : Gh) (H1 : Heap) (locs1 : List Loc) (ls1 : Array Slot), LI τ1 G1 xo mo → TY D cy base τ1 G1 H1 → va_S (RA base) s.heap H1 locs1 → lv_has ls1 4 [(3, .int i), (2, .ref mo), (1, .ref xo), (0, .ref b)] → W p l e room_1 s m #[Value.ref b] below meth c H1 locs1 (cells + 10) (slots + 200) (lw_Z below #[Value.ref b] s) (F0 m 2266 ls1 [])) : W p l e room_1 s m #[Value.ref b] below meth c H locs cells slots (lw_Z below #[Value.ref b] s) (F0 m 793 ls []) := by
  obtain ⟨hx, hb, hr, hml, hown, hts, hX, hbl, hlocks, hgv⟩ := id C0
  have hown : s.vm.findClass RL = some m.cls := hown
  have hb : c.code = cL_law := hb
  have hts : ∀ w ∈ GW, w.before #[Value.ref b] s = true := fun w h => hts w (gw_tbl w h)
  have h_xo := hLI.1
  have h_mo := hLI.2.1
  have hF : Fr τ [1, 2, 3, 4, 6, 7, 11, 20, 25, 26, 27, 28, 29, 30, 31, 32, 33, 34, 35, 36, 37, 38, 39, 40, 51, 52, 53, 54, 55, 66, 67, 68, 69, 70, 71, 72, 73, 74, 75, 76, 77, 78, 79, 80, 81, 82, 83, 84, 85, 86, 87, 88, 89, 90, 91, 1001, 1002, 1004, 1023, 1024] G G := Fr.rf
  obtain ⟨w1, ew1⟩ : ∃ y : Int32, y = xs (i.toInt.toNat + 1) := ⟨_, rfl⟩
  obtain ⟨w2, ew2⟩ : ∃ y : Int32, y = xs (i.toInt.toNat + 2) := ⟨_, rfl⟩
  obtain ⟨w3, ew3⟩ : ∃ y : Int32, y = xs (i.toInt.toNat + 3) := ⟨_, rfl⟩
  refine lv_aload_n hx hb dL_law_793 rfl (lv_at hl 2 rfl) ?_
  refine lv_aload_n hx hb dL_law_794 rfl (lv_at hl 3 rfl) ?_
  refine lv_iload_n hx hb dL_law_795 rfl (lv_at hl 0 rfl) ?_
  refine lv_iconst (v := 1) hx hb dL_law_796 (by decide) ?_
  refine lv_iadd hx hb dL_law_797 ?_
  refine lv_topi (fun z_1 ez_1 => ?_)
  have tz_1 : z_1.toInt = i.toInt + 1 := add_t ez_1 (show -2147483648 ≤ i.toInt + 1 by omega) (show i.toInt + 1 < 2147483648 by omega)
  refine va_sld (i := z_1) hx hb hX hbl hbA hS (vp_in_iff.mpr ⟨by omega, by omega⟩) dL_law_798 ?_
  refine W.eq (g2 := F0 m 799 ls [.int w1, .ref xo]) (by rw [ew1, show z_1.toNatClampNeg = i.toInt.toNat + 1 from (show z_1.toInt.toNat = _ by omega)]) ?_
  refine lv_aload_n hx hb dL_law_799 rfl (lv_at hl 3 rfl) ?_
  refine lv_iload_n hx hb dL_law_800 rfl (lv_at hl 0 rfl) ?_
  refine lv_iconst (v := 2) hx hb dL_law_801 (by decide) ?_
  refine lv_iadd hx hb dL_law_802 ?_
  refine lv_topi (fun z_2 ez_2 => ?_)
  have tz_2 : z_2.toInt = i.toInt + 2 := add_t ez_2 (show -2147483648 ≤ i.toInt + 2 by omega) (show i.toInt + 2 < 2147483648 by omega)
  refine va_sld (i := z_2) hx hb hX hbl hbA hS (vp_in_iff.mpr ⟨by omega, by omega⟩) dL_law_803 ?_
  refine W.eq (g2 := F0 m 804 ls [.int w2, .int w1, .ref xo]) (by rw [ew2, show z_2.toNatClampNeg = i.toInt.toNat + 2 from (show z_2.toInt.toNat = _ by omega)]) ?_
  refine lv_aload_n hx hb dL_law_804 rfl (lv_at hl 3 rfl) ?_
  refine lv_iload_n hx hb dL_law_805 rfl (lv_at hl 0 rfl) ?_
  refine lv_iconst (v := 3) hx hb dL_law_806 (by decide) ?_
  refine lv_iadd hx hb dL_law_807 ?_
  refine lv_topi (fun z_3 ez_3 => ?_)
  have tz_3 : z_3.toInt = i.toInt + 3 := add_t ez_3 (show -2147483648 ≤ i.toInt + 3 by omega) (show i.toInt + 3 < 2147483648 by omega)
  refine va_sld (i := z_3) hx hb hX hbl hbA hS (vp_in_iff.mpr ⟨by omega, by omega⟩) dL_law_808 ?_
  refine W.eq (g2 := F0 m 809 ls [.int w3, .int w2, .int w1, .ref xo]) (by rw [ew3, show z_3.toNatClampNeg = i.toInt.toNat + 3 from (show z_3.toInt.toNat = _ by omega)]) ?_
  refine t_calli (runV (As := [.int w1, .int w2, .int w3]) (rest := []) ⟨hx, hb, hml, hown, hts⟩ (t_X9_need l D cy base τ G xo h_xo w1 w2 w3) sV_L_81 hK (t_recv cf_1 hK hT h_xo) ⟨Nat.le_trans hZ hS.1, hT⟩ ⟨Nat.le_of_ble_eq_true rfl, Nat.le_of_ble_eq_true rfl⟩ rfl hl.1 rfl (Nat.le_of_ble_eq_true rfl) dL_law_809 ⟨by have q9 := hroom.1; omega, by have q9 := hroom.2; omega⟩) hS (fun r_4 G_4 H locs hF_4 hr_4 hT hS => ?_)
  have hF := hF.tr hF_4 rfl
  have hLI := hLI.fr EX.rf hF_4 rfl
  refine lv_pop hx hb dL_law_812 rfl ?_
  refine lv_aload_n hx hb dL_law_813 rfl (lv_at hl 1 rfl) ?_
  refine lv_aload_n hx hb dL_law_814 rfl (lv_at hl 3 rfl) ?_
  refine lv_iload_n hx hb dL_law_815 rfl (lv_at hl 0 rfl) ?_
  refine lv_iconst (v := 1) hx hb dL_law_816 (by decide) ?_
  refine lv_iadd hx hb dL_law_817 ?_
  refine lv_topi (fun z_5 ez_5 => ?_)
  have w_6 : z_1 = z_5 := ez_1.trans ez_5.symm
  subst w_6
  refine va_sld (i := z_1) hx hb hX hbl hbA hS (vp_in_iff.mpr ⟨by omega, by omega⟩) dL_law_818 ?_
  refine W.eq (g2 := F0 m 819 ls [.int w1, .ref mo]) (by rw [ew1, show z_1.toNatClampNeg = i.toInt.toNat + 1 from (show z_1.toInt.toNat = _ by omega)]) ?_
  refine lv_aload_n hx hb dL_law_819 rfl (lv_at hl 3 rfl) ?_
  refine lv_iload_n hx hb dL_law_820 rfl (lv_at hl 0 rfl) ?_
  refine lv_iconst (v := 2) hx hb dL_law_821 (by decide) ?_
  refine lv_iadd hx hb dL_law_822 ?_
  refine lv_topi (fun z_7 ez_7 => ?_)
  have w_8 : z_2 = z_7 := ez_2.trans ez_7.symm
  subst w_8
  refine va_sld (i := z_2) hx hb hX hbl hbA hS (vp_in_iff.mpr ⟨by omega, by omega⟩) dL_law_823 ?_
  refine W.eq (g2 := F0 m 824 ls [.int w2, .int w1, .ref mo]) (by rw [ew2, show z_2.toNatClampNeg = i.toInt.toNat + 2 from (show z_2.toInt.toNat = _ by omega)]) ?_
  refine lv_aload_n hx hb dL_law_824 rfl (lv_at hl 3 rfl) ?_
  refine lv_iload_n hx hb dL_law_825 rfl (lv_at hl 0 rfl) ?_
  refine lv_iconst (v := 3) hx hb dL_law_826 (by decide) ?_
  refine lv_iadd hx hb dL_law_827 ?_
  refine lv_topi (fun z_9 ez_9 => ?_)
  have w_10 : z_3 = z_9 := ez_3.trans ez_9.symm
  subst w_10
  refine va_sld (i := z_3) hx hb hX hbl hbA hS (vp_in_iff.mpr ⟨by omega, by omega⟩) dL_law_828 ?_
  refine W.eq (g2 := F0 m 829 ls [.int w3, .int w2, .int w1, .ref mo]) (by rw [ew3, show z_3.toNatClampNeg = i.toInt.toNat + 3 from (show z_3.toInt.toNat = _ by omega)]) ?_
  refine t_calli (runV (As := [.int w1, .int w2, .int w3]) (rest := []) ⟨hx, hb, hml, hown, hts⟩ (t_X10_need l D cy base τ G_4 mo h_mo w1 w2 w3) sV_L_84 hK (t_recv cf_11 hK hT h_mo) ⟨Nat.le_trans hZ hS.1, hT⟩ ⟨Nat.le_of_ble_eq_true rfl, Nat.le_of_ble_eq_true rfl⟩ rfl hl.1 rfl (Nat.le_of_ble_eq_true rfl) dL_law_829 ⟨by have q9 := hroom.1; omega, by have q9 := hroom.2; omega⟩) hS (fun r_11 G_11 H locs hF_11 hr_11 hT hS => ?_)
  have hF := hF.tr hF_11 rfl
  have hLI := hLI.fr EX.rf hF_11 rfl
  refine lv_pop hx hb dL_law_832 rfl ?_
  refine lv_goto (tgt := 2266) hx hb dL_law_833 (by decide) ?_
  exact W.widen (k := cells + 10) (n := slots + 200) (by omega) (by omega) (kk τ G_11 H locs ls hLI hT hS (lv_sub hl [0, 1, 2, 3] rfl))
set_option maxHeartbeats 4000000 in
set_option maxRecDepth 100000 in
theorem lc_16 {p : Program} {e : Env} {s : State} {m : MethodId} {below : List Frame} {meth : Method} {c : Code} {l : Launch} {b L : Nat} {xs : Nat → Int32} (D : va_G) (cy : Nat → ClassId) (adK adV : Nat → Nat) (base xo mo : Nat) (C0 : lw_At p s m meth c b L xs) (hK : KK D cy s) (hSS : SS adK adV base s s.heap) (hZ : base ≤ s.heap.size) (hZ2 : s.heap.size ≤ base) (hbA : ¬ RA base b) (hLs : L ≤ 3584) (τ : Nat → Nat) (G : Gh) (i : Int32) (hi0 : 0 ≤ i.toInt) (hi7 : i.toInt + 7 ≤ L) (hLI : LI τ G xo mo) {H : Heap} {locs : List Loc} (hT : TY D cy base τ G H) (hS : va_S (RA base) s.heap H locs) {ls : Array Slot} (hl : lv_has ls 4 [(3, .int i), (2, .ref mo), (1, .ref xo), (0, .ref b)]) {cells slots : Nat} (hroom : cells + 100 ≤ room_1.cells ∧ slots + 1000 ≤ room_1.slots) (kk : ∀ (τ1 : Nat → Nat) (G1 : Gh) (H1 : Heap) (locs1 : List Loc) (ls1 : Array Slot), LI τ1 G1 xo mo → TY D cy base τ1 G1 H1 → va_S (RA base) s.heap H1 locs1 → lv_has ls1 4 [(3, .int i), (2, .ref mo), (1, .ref xo), (0, .ref b)] → W p l e room_1 s m #[Value.ref b] below meth c H1 locs1 (cells + 10) (slots + 200) (lw_Z below #[Value.ref b] s) (F0 m 2266 ls1 [])) : W p l e room_1 s m #[Value.ref b] below meth c H locs cells slots (lw_Z below #[Value.ref b] s) (F0 m 836 ls []) := by
  obtain ⟨hx, hb, hr, hml, hown, hts, hX, hbl, hlocks, hgv⟩ := id C0
  have hown : s.vm.findClass RL = some m.cls := hown
  have hb : c.code = cL_law := hb
  have hts : ∀ w ∈ GW, w.before #[Value.ref b] s = true := fun w h => hts w (gw_tbl w h)
  have h_xo := hLI.1
  have h_mo := hLI.2.1
  have hF : Fr τ [1, 2, 3, 4, 6, 7, 11, 20, 25, 26, 27, 28, 29, 30, 31, 32, 33, 34, 35, 36, 37, 38, 39, 40, 51, 52, 53, 54, 55, 66, 67, 68, 69, 70, 71, 72, 73, 74, 75, 76, 77, 78, 79, 80, 81, 82, 83, 84, 85, 86, 87, 88, 89, 90, 91, 1001, 1002, 1004, 1023, 1024] G G := Fr.rf
  obtain ⟨w1, ew1⟩ : ∃ y : Int32, y = xs (i.toInt.toNat + 1) := ⟨_, rfl⟩
  refine lv_aload_n hx hb dL_law_836 rfl (lv_at hl 2 rfl) ?_
  refine lv_aload_n hx hb dL_law_837 rfl (lv_at hl 3 rfl) ?_
  refine lv_iload_n hx hb dL_law_838 rfl (lv_at hl 0 rfl) ?_
  refine lv_iconst (v := 1) hx hb dL_law_839 (by decide) ?_
  refine lv_iadd hx hb dL_law_840 ?_
  refine lv_topi (fun z_1 ez_1 => ?_)
  have tz_1 : z_1.toInt = i.toInt + 1 := add_t ez_1 (show -2147483648 ≤ i.toInt + 1 by omega) (show i.toInt + 1 < 2147483648 by omega)
  refine va_sld (i := z_1) hx hb hX hbl hbA hS (vp_in_iff.mpr ⟨by omega, by omega⟩) dL_law_841 ?_
  refine W.eq (g2 := F0 m 842 ls [.int w1, .ref xo]) (by rw [ew1, show z_1.toNatClampNeg = i.toInt.toNat + 1 from (show z_1.toInt.toNat = _ by omega)]) ?_
  refine t_calll (runV (As := [.int w1]) (rest := []) ⟨hx, hb, hml, hown, hts⟩ (t_X9_packed l D cy base τ G xo h_xo w1) sV_L_85 hK (t_recv cf_1 hK hT h_xo) ⟨Nat.le_trans hZ hS.1, hT⟩ ⟨Nat.le_of_ble_eq_true rfl, Nat.le_of_ble_eq_true rfl⟩ rfl hl.1 rfl (Nat.le_of_ble_eq_true rfl) dL_law_842 ⟨by have q9 := hroom.1; omega, by have q9 := hroom.2; omega⟩) hS (fun r_2 G_2 H locs hF_2 hr_2 hT hS => ?_)
  have hF := hF.tr hF_2 rfl
  have hLI := hLI.fr EX.rf hF_2 rfl
  refine lv_pop2_2 hx hb dL_law_845 rfl ?_
  refine lv_aload_n hx hb dL_law_846 rfl (lv_at hl 1 rfl) ?_
  refine lv_aload_n hx hb dL_law_847 rfl (lv_at hl 3 rfl) ?_
  refine lv_iload_n hx hb dL_law_848 rfl (lv_at hl 0 rfl) ?_
  refine lv_iconst (v := 1) hx hb dL_law_849 (by decide) ?_
  refine lv_iadd hx hb dL_law_850 ?_
  refine lv_topi (fun z_3 ez_3 => ?_)
  have w_4 : z_1 = z_3 := ez_1.trans ez_3.symm
  subst w_4
  refine va_sld (i := z_1) hx hb hX hbl hbA hS (vp_in_iff.mpr ⟨by omega, by omega⟩) dL_law_851 ?_
  refine W.eq (g2 := F0 m 852 ls [.int w1, .ref mo]) (by rw [ew1, show z_1.toNatClampNeg = i.toInt.toNat + 1 from (show z_1.toInt.toNat = _ by omega)]) ?_
  refine t_calll (runV (As := [.int w1]) (rest := []) ⟨hx, hb, hml, hown, hts⟩ (t_X10_packed l D cy base τ G_2 mo h_mo w1) sV_L_89 hK (t_recv cf_11 hK hT h_mo) ⟨Nat.le_trans hZ hS.1, hT⟩ ⟨Nat.le_of_ble_eq_true rfl, Nat.le_of_ble_eq_true rfl⟩ rfl hl.1 rfl (Nat.le_of_ble_eq_true rfl) dL_law_852 ⟨by have q9 := hroom.1; omega, by have q9 := hroom.2; omega⟩) hS (fun r_5 G_5 H locs hF_5 hr_5 hT hS => ?_)
  have hF := hF.tr hF_5 rfl
  have hLI := hLI.fr EX.rf hF_5 rfl
  refine lv_pop2_2 hx hb dL_law_855 rfl ?_
  refine lv_goto (tgt := 2266) hx hb dL_law_856 (by decide) ?_
  exact W.widen (k := cells + 10) (n := slots + 200) (by omega) (by omega) (kk τ G_5 H locs ls hLI hT hS (lv_sub hl [0, 1, 2, 3] rfl))
set_option maxHeartbeats 4000000 in
set_option maxRecDepth 100000 in
theorem lc_17 {p : Program} {e : Env} {s : State} {m : MethodId} {below : List Frame} {meth : Method} {c : Code} {l : Launch} {b L : Nat} {xs : Nat → Int32} (D : va_G) (cy : Nat → ClassId) (adK adV : Nat → Nat) (base xo mo : Nat) (C0 : lw_At p s m meth c b L xs) (hK : KK D cy s) (hSS : SS adK adV base s s.heap) (hZ : base ≤ s.heap.size) (hZ2 : s.heap.size ≤ base) (hbA : ¬ RA base b) (hLs : L ≤ 3584) (τ : Nat → Nat) (G : Gh) (i : Int32) (hi0 : 0 ≤ i.toInt) (hi7 : i.toInt + 7 ≤ L) (hLI : LI τ G xo mo) {H : Heap} {locs : List Loc} (hT : TY D cy base τ G H) (hS : va_S (RA base) s.heap H locs) {ls : Array Slot} (hl : lv_has ls 4 [(3, .int i), (2, .ref mo), (1, .ref xo), (0, .ref b)]) {cells slots : Nat} (hroom : cells + 100 ≤ room_1.cells ∧ slots + 1000 ≤ room_1.slots) (kk : ∀ (τ1 : Nat → Nat) (G1 : Gh) (H1 : Heap) (locs1 : List Loc) (ls1 : Array Slot), LI τ1 G1 xo mo → TY D cy base τ1 G1 H1 → va_S (RA base) s.heap H1 locs1 → lv_has ls1 4 [(3, .int i), (2, .ref mo), (1, .ref xo), (0, .ref b)] → W p l e room_1 s m #[Value.ref b] below meth c H1 locs1 (cells + 10) (slots + 200) (lw_Z below #[Value.ref b] s) (F0 m 2266 ls1 [])) : W p l e room_1 s m #[Value.ref b] below meth c H locs cells slots (lw_Z below #[Value.ref b] s) (F0 m 859 ls []) := by
  obtain ⟨hx, hb, hr, hml, hown, hts, hX, hbl, hlocks, hgv⟩ := id C0
  have hown : s.vm.findClass RL = some m.cls := hown
  have hb : c.code = cL_law := hb
  have hts : ∀ w ∈ GW, w.before #[Value.ref b] s = true := fun w h => hts w (gw_tbl w h)
  have h_xo := hLI.1
  have h_mo := hLI.2.1
  have hF : Fr τ [1, 2, 3, 4, 6, 7, 11, 20, 25, 26, 27, 28, 29, 30, 31, 32, 33, 34, 35, 36, 37, 38, 39, 40, 51, 52, 53, 54, 55, 66, 67, 68, 69, 70, 71, 72, 73, 74, 75, 76, 77, 78, 79, 80, 81, 82, 83, 84, 85, 86, 87, 88, 89, 90, 91, 1001, 1002, 1004, 1023, 1024] G G := Fr.rf
  obtain ⟨w1, ew1⟩ : ∃ y : Int32, y = xs (i.toInt.toNat + 1) := ⟨_, rfl⟩
  obtain ⟨w2, ew2⟩ : ∃ y : Int32, y = xs (i.toInt.toNat + 2) := ⟨_, rfl⟩
  refine lv_aload_n hx hb dL_law_859 rfl (lv_at hl 2 rfl) ?_
  refine lv_aload_n hx hb dL_law_860 rfl (lv_at hl 3 rfl) ?_
  refine lv_iload_n hx hb dL_law_861 rfl (lv_at hl 0 rfl) ?_
  refine lv_iconst (v := 1) hx hb dL_law_862 (by decide) ?_
  refine lv_iadd hx hb dL_law_863 ?_
  refine lv_topi (fun z_1 ez_1 => ?_)
  have tz_1 : z_1.toInt = i.toInt + 1 := add_t ez_1 (show -2147483648 ≤ i.toInt + 1 by omega) (show i.toInt + 1 < 2147483648 by omega)
  refine va_sld (i := z_1) hx hb hX hbl hbA hS (vp_in_iff.mpr ⟨by omega, by omega⟩) dL_law_864 ?_
  refine W.eq (g2 := F0 m 865 ls [.int w1, .ref xo]) (by rw [ew1, show z_1.toNatClampNeg = i.toInt.toNat + 1 from (show z_1.toInt.toNat = _ by omega)]) ?_
  refine lv_aload_n hx hb dL_law_865 rfl (lv_at hl 3 rfl) ?_
  refine lv_iload_n hx hb dL_law_866 rfl (lv_at hl 0 rfl) ?_
  refine lv_iconst (v := 2) hx hb dL_law_867 (by decide) ?_
  refine lv_iadd hx hb dL_law_868 ?_
  refine lv_topi (fun z_2 ez_2 => ?_)
  have tz_2 : z_2.toInt = i.toInt + 2 := add_t ez_2 (show -2147483648 ≤ i.toInt + 2 by omega) (show i.toInt + 2 < 2147483648 by omega)
  refine va_sld (i := z_2) hx hb hX hbl hbA hS (vp_in_iff.mpr ⟨by omega, by omega⟩) dL_law_869 ?_
  refine W.eq (g2 := F0 m 870 ls [.int w2, .int w1, .ref xo]) (by rw [ew2, show z_2.toNatClampNeg = i.toInt.toNat + 2 from (show z_2.toInt.toNat = _ by omega)]) ?_
  refine t_calli (runV (As := [.int w1, .int w2]) (rest := []) ⟨hx, hb, hml, hown, hts⟩ (t_X9_pack l D cy base τ G xo h_xo w1 w2) sV_L_90 hK (t_recv cf_1 hK hT h_xo) ⟨Nat.le_trans hZ hS.1, hT⟩ ⟨Nat.le_of_ble_eq_true rfl, Nat.le_of_ble_eq_true rfl⟩ rfl hl.1 rfl (Nat.le_of_ble_eq_true rfl) dL_law_870 ⟨by have q9 := hroom.1; omega, by have q9 := hroom.2; omega⟩) hS (fun r_3 G_3 H locs hF_3 hr_3 hT hS => ?_)
  have hF := hF.tr hF_3 rfl
  have hLI := hLI.fr EX.rf hF_3 rfl
  refine lv_pop hx hb dL_law_873 rfl ?_
  refine lv_aload_n hx hb dL_law_874 rfl (lv_at hl 1 rfl) ?_
  refine lv_aload_n hx hb dL_law_875 rfl (lv_at hl 3 rfl) ?_
  refine lv_iload_n hx hb dL_law_876 rfl (lv_at hl 0 rfl) ?_
  refine lv_iconst (v := 1) hx hb dL_law_877 (by decide) ?_
  refine lv_iadd hx hb dL_law_878 ?_
  refine lv_topi (fun z_4 ez_4 => ?_)
  have w_5 : z_1 = z_4 := ez_1.trans ez_4.symm
  subst w_5
  refine va_sld (i := z_1) hx hb hX hbl hbA hS (vp_in_iff.mpr ⟨by omega, by omega⟩) dL_law_879 ?_
  refine W.eq (g2 := F0 m 880 ls [.int w1, .ref mo]) (by rw [ew1, show z_1.toNatClampNeg = i.toInt.toNat + 1 from (show z_1.toInt.toNat = _ by omega)]) ?_
  refine lv_aload_n hx hb dL_law_880 rfl (lv_at hl 3 rfl) ?_
  refine lv_iload_n hx hb dL_law_881 rfl (lv_at hl 0 rfl) ?_
  refine lv_iconst (v := 2) hx hb dL_law_882 (by decide) ?_
  refine lv_iadd hx hb dL_law_883 ?_
  refine lv_topi (fun z_6 ez_6 => ?_)
  have w_7 : z_2 = z_6 := ez_2.trans ez_6.symm
  subst w_7
  refine va_sld (i := z_2) hx hb hX hbl hbA hS (vp_in_iff.mpr ⟨by omega, by omega⟩) dL_law_884 ?_
  refine W.eq (g2 := F0 m 885 ls [.int w2, .int w1, .ref mo]) (by rw [ew2, show z_2.toNatClampNeg = i.toInt.toNat + 2 from (show z_2.toInt.toNat = _ by omega)]) ?_
  obtain ⟨q_8, eq_8, hq_8⟩ := (show ∃ q, G_3.2.2.1 mo 18 = some q ∧ τ q = 68 from hT.rgr h_mo (by decide) 18)
  have eq_8 := (hF.r h_mo (by decide) rfl _).symm.trans eq_8
  obtain ⟨q_9, eq_9, hq_9⟩ := (show ∃ q, G_3.2.2.1 mo 36 = some q ∧ τ q = 86 from hT.rgr h_mo (by decide) 36)
  have eq_9 := (hF.r h_mo (by decide) rfl _).symm.trans eq_9
  obtain ⟨q_10, eq_10, hq_10⟩ := (show ∃ q, G_3.2.2.1 mo 37 = some q ∧ τ q = 87 from hT.rgr h_mo (by decide) 37)
  have eq_10 := (hF.r h_mo (by decide) rfl _).symm.trans eq_10
  obtain ⟨q_11, eq_11, hq_11⟩ := (show ∃ q, G_3.2.2.1 mo 21 = some q ∧ τ q = 71 from hT.rgr h_mo (by decide) 21)
  have eq_11 := (hF.r h_mo (by decide) rfl _).symm.trans eq_11
  obtain ⟨z_12, ez_12⟩ : ∃ y : Int32, y = G_3.1 q_8 0 := ⟨_, rfl⟩
  have rz_12 : 0 ≤ z_12.toInt ∧ z_12.toInt ≤ 3 := by rw [ez_12]; exact hT.rgi hq_8 (by decide) 0
  refine t_calli (runV (As := [.int w1, .int w2]) (rest := []) ⟨hx, hb, hml, hown, hts⟩ (t_X10_pack l D cy base τ G_3 mo h_mo w1 w2 q_8 hq_8 ((hF.r h_mo (by decide) rfl _).trans eq_8) q_9 hq_9 ((hF.r h_mo (by decide) rfl _).trans eq_9) q_10 hq_10 ((hF.r h_mo (by decide) rfl _).trans eq_10) q_11 hq_11 ((hF.r h_mo (by decide) rfl _).trans eq_11) z_12 ez_12 ⟨by omega, by omega⟩) sV_L_93 hK (t_recv cf_11 hK hT h_mo) ⟨Nat.le_trans hZ hS.1, hT⟩ ⟨Nat.le_of_ble_eq_true rfl, Nat.le_of_ble_eq_true rfl⟩ rfl hl.1 rfl (Nat.le_of_ble_eq_true rfl) dL_law_885 ⟨by have q9 := hroom.1; omega, by have q9 := hroom.2; omega⟩) hS (fun r_13 G_13 H locs hF_13 hr_13 hT hS => ?_)
  have hF := hF.tr hF_13 rfl
  have hLI := hLI.fr EX.rf hF_13 rfl
  refine lv_pop hx hb dL_law_888 rfl ?_
  refine lv_goto (tgt := 2266) hx hb dL_law_889 (by decide) ?_
  exact W.widen (k := cells + 10) (n := slots + 200) (by omega) (by omega) (kk τ G_13 H locs ls hLI hT hS (lv_sub hl [0, 1, 2, 3] rfl))
set_option maxHeartbeats 4000000 in
set_option maxRecDepth 100000 in
theorem lc_18 {p : Program} {e : Env} {s : State} {m : MethodId} {below : List Frame} {meth : Method} {c : Code} {l : Launch} {b L : Nat} {xs : Nat → Int32} (D : va_G) (cy : Nat → ClassId) (adK adV : Nat → Nat) (base xo mo : Nat) (C0 : lw_At p s m meth c b L xs) (hK : KK D cy s) (hSS : SS adK adV base s s.heap) (hZ : base ≤ s.heap.size) (hZ2 : s.heap.size ≤ base) (hbA : ¬ RA base b) (hLs : L ≤ 3584) (τ : Nat → Nat) (G : Gh) (i : Int32) (hi0 : 0 ≤ i.toInt) (hi7 : i.toInt + 7 ≤ L) (hLI : LI τ G xo mo) {H : Heap} {locs : List Loc} (hT : TY D cy base τ G H) (hS : va_S (RA base) s.heap H locs) {ls : Array Slot} (hl : lv_has ls 4 [(3, .int i), (2, .ref mo), (1, .ref xo), (0, .ref b)]) {cells slots : Nat} (hroom : cells + 100 ≤ room_1.cells ∧ slots + 1000 ≤ room_1.slots) (kk : ∀ (τ1 : Nat → Nat) (G1 : Gh) (H1 : Heap) (locs1 : List Loc) (ls1 : Array Slot), LI τ1 G1 xo mo → TY D cy base τ1 G1 H1 → va_S (RA base) s.heap H1 locs1 → lv_has ls1 4 [(3, .int i), (2, .ref mo), (1, .ref xo), (0, .ref b)] → W p l e room_1 s m #[Value.ref b] below meth c H1 locs1 (cells + 10) (slots + 200) (lw_Z below #[Value.ref b] s) (F0 m 2266 ls1 [])) : W p l e room_1 s m #[Value.ref b] below meth c H locs cells slots (lw_Z below #[Value.ref b] s) (F0 m 892 ls []) := by
  obtain ⟨hx, hb, hr, hml, hown, hts, hX, hbl, hlocks, hgv⟩ := id C0
  have hown : s.vm.findClass RL = some m.cls := hown
  have hb : c.code = cL_law := hb
  have hts : ∀ w ∈ GW, w.before #[Value.ref b] s = true := fun w h => hts w (gw_tbl w h)
  have h_xo := hLI.1
  have h_mo := hLI.2.1
  have hF : Fr τ [1, 2, 3, 4, 6, 7, 11, 20, 25, 26, 27, 28, 29, 30, 31, 32, 33, 34, 35, 36, 37, 38, 39, 40, 51, 52, 53, 54, 55, 66, 67, 68, 69, 70, 71, 72, 73, 74, 75, 76, 77, 78, 79, 80, 81, 82, 83, 84, 85, 86, 87, 88, 89, 90, 91, 1001, 1002, 1004, 1023, 1024] G G := Fr.rf
  obtain ⟨w1, ew1⟩ : ∃ y : Int32, y = xs (i.toInt.toNat + 1) := ⟨_, rfl⟩
  refine lv_aload_n hx hb dL_law_892 rfl (lv_at hl 2 rfl) ?_
  refine lv_aload_n hx hb dL_law_893 rfl (lv_at hl 3 rfl) ?_
  refine lv_iload_n hx hb dL_law_894 rfl (lv_at hl 0 rfl) ?_
  refine lv_iconst (v := 1) hx hb dL_law_895 (by decide) ?_
  refine lv_iadd hx hb dL_law_896 ?_
  refine lv_topi (fun z_1 ez_1 => ?_)
  have tz_1 : z_1.toInt = i.toInt + 1 := add_t ez_1 (show -2147483648 ≤ i.toInt + 1 by omega) (show i.toInt + 1 < 2147483648 by omega)
  refine va_sld (i := z_1) hx hb hX hbl hbA hS (vp_in_iff.mpr ⟨by omega, by omega⟩) dL_law_897 ?_
  refine W.eq (g2 := F0 m 898 ls [.int w1, .ref xo]) (by rw [ew1, show z_1.toNatClampNeg = i.toInt.toNat + 1 from (show z_1.toInt.toNat = _ by omega)]) ?_
  refine t_calll (runV (As := [.int w1]) (rest := []) ⟨hx, hb, hml, hown, hts⟩ (t_X9_gap l D cy base τ G xo h_xo w1) sV_L_94 hK (t_recv cf_1 hK hT h_xo) ⟨Nat.le_trans hZ hS.1, hT⟩ ⟨Nat.le_of_ble_eq_true rfl, Nat.le_of_ble_eq_true rfl⟩ rfl hl.1 rfl (Nat.le_of_ble_eq_true rfl) dL_law_898 ⟨by have q9 := hroom.1; omega, by have q9 := hroom.2; omega⟩) hS (fun r_2 G_2 H locs hF_2 hr_2 hT hS => ?_)
  have hF := hF.tr hF_2 rfl
  have hLI := hLI.fr EX.rf hF_2 rfl
  refine lv_pop2_2 hx hb dL_law_901 rfl ?_
  refine lv_aload_n hx hb dL_law_902 rfl (lv_at hl 1 rfl) ?_
  refine lv_aload_n hx hb dL_law_903 rfl (lv_at hl 3 rfl) ?_
  refine lv_iload_n hx hb dL_law_904 rfl (lv_at hl 0 rfl) ?_
  refine lv_iconst (v := 1) hx hb dL_law_905 (by decide) ?_
  refine lv_iadd hx hb dL_law_906 ?_
  refine lv_topi (fun z_3 ez_3 => ?_)
  have w_4 : z_1 = z_3 := ez_1.trans ez_3.symm
  subst w_4
  refine va_sld (i := z_1) hx hb hX hbl hbA hS (vp_in_iff.mpr ⟨by omega, by omega⟩) dL_law_907 ?_
  refine W.eq (g2 := F0 m 908 ls [.int w1, .ref mo]) (by rw [ew1, show z_1.toNatClampNeg = i.toInt.toNat + 1 from (show z_1.toInt.toNat = _ by omega)]) ?_
  refine t_calll (runV (As := [.int w1]) (rest := []) ⟨hx, hb, hml, hown, hts⟩ (t_X10_gap l D cy base τ G_2 mo h_mo w1) sV_L_97 hK (t_recv cf_11 hK hT h_mo) ⟨Nat.le_trans hZ hS.1, hT⟩ ⟨Nat.le_of_ble_eq_true rfl, Nat.le_of_ble_eq_true rfl⟩ rfl hl.1 rfl (Nat.le_of_ble_eq_true rfl) dL_law_908 ⟨by have q9 := hroom.1; omega, by have q9 := hroom.2; omega⟩) hS (fun r_5 G_5 H locs hF_5 hr_5 hT hS => ?_)
  have hF := hF.tr hF_5 rfl
  have hLI := hLI.fr EX.rf hF_5 rfl
  refine lv_pop2_2 hx hb dL_law_911 rfl ?_
  refine lv_goto (tgt := 2266) hx hb dL_law_912 (by decide) ?_
  exact W.widen (k := cells + 10) (n := slots + 200) (by omega) (by omega) (kk τ G_5 H locs ls hLI hT hS (lv_sub hl [0, 1, 2, 3] rfl))
set_option maxHeartbeats 4000000 in
set_option maxRecDepth 100000 in
theorem lc_19 {p : Program} {e : Env} {s : State} {m : MethodId} {below : List Frame} {meth : Method} {c : Code} {l : Launch} {b L : Nat} {xs : Nat → Int32} (D : va_G) (cy : Nat → ClassId) (adK adV : Nat → Nat) (base xo mo : Nat) (C0 : lw_At p s m meth c b L xs) (hK : KK D cy s) (hSS : SS adK adV base s s.heap) (hZ : base ≤ s.heap.size) (hZ2 : s.heap.size ≤ base) (hbA : ¬ RA base b) (hLs : L ≤ 3584) (τ : Nat → Nat) (G : Gh) (i : Int32) (hi0 : 0 ≤ i.toInt) (hi7 : i.toInt + 7 ≤ L) (hLI : LI τ G xo mo) {H : Heap} {locs : List Loc} (hT : TY D cy base τ G H) (hS : va_S (RA base) s.heap H locs) {ls : Array Slot} (hl : lv_has ls 4 [(3, .int i), (2, .ref mo), (1, .ref xo), (0, .ref b)]) {cells slots : Nat} (hroom : cells + 100 ≤ room_1.cells ∧ slots + 1000 ≤ room_1.slots) (kk : ∀ (τ1 : Nat → Nat) (G1 : Gh) (H1 : Heap) (locs1 : List Loc) (ls1 : Array Slot), LI τ1 G1 xo mo → TY D cy base τ1 G1 H1 → va_S (RA base) s.heap H1 locs1 → lv_has ls1 4 [(3, .int i), (2, .ref mo), (1, .ref xo), (0, .ref b)] → W p l e room_1 s m #[Value.ref b] below meth c H1 locs1 (cells + 10) (slots + 200) (lw_Z below #[Value.ref b] s) (F0 m 2266 ls1 [])) : W p l e room_1 s m #[Value.ref b] below meth c H locs cells slots (lw_Z below #[Value.ref b] s) (F0 m 915 ls []) := by
  obtain ⟨hx, hb, hr, hml, hown, hts, hX, hbl, hlocks, hgv⟩ := id C0
  have hown : s.vm.findClass RL = some m.cls := hown
  have hb : c.code = cL_law := hb
  have hts : ∀ w ∈ GW, w.before #[Value.ref b] s = true := fun w h => hts w (gw_tbl w h)
  have h_xo := hLI.1
  have h_mo := hLI.2.1
  have hF : Fr τ [1, 2, 3, 4, 6, 7, 11, 20, 25, 26, 27, 28, 29, 30, 31, 32, 33, 34, 35, 36, 37, 38, 39, 40, 51, 52, 53, 54, 55, 66, 67, 68, 69, 70, 71, 72, 73, 74, 75, 76, 77, 78, 79, 80, 81, 82, 83, 84, 85, 86, 87, 88, 89, 90, 91, 1001, 1002, 1004, 1023, 1024] G G := Fr.rf
  obtain ⟨w1, ew1⟩ : ∃ y : Int32, y = xs (i.toInt.toNat + 1) := ⟨_, rfl⟩
  obtain ⟨w2, ew2⟩ : ∃ y : Int32, y = xs (i.toInt.toNat + 2) := ⟨_, rfl⟩
  refine lv_aload_n hx hb dL_law_915 rfl (lv_at hl 2 rfl) ?_
  refine lv_aload_n hx hb dL_law_916 rfl (lv_at hl 3 rfl) ?_
  refine lv_iload_n hx hb dL_law_917 rfl (lv_at hl 0 rfl) ?_
  refine lv_iconst (v := 1) hx hb dL_law_918 (by decide) ?_
  refine lv_iadd hx hb dL_law_919 ?_
  refine lv_topi (fun z_1 ez_1 => ?_)
  have tz_1 : z_1.toInt = i.toInt + 1 := add_t ez_1 (show -2147483648 ≤ i.toInt + 1 by omega) (show i.toInt + 1 < 2147483648 by omega)
  refine va_sld (i := z_1) hx hb hX hbl hbA hS (vp_in_iff.mpr ⟨by omega, by omega⟩) dL_law_920 ?_
  refine W.eq (g2 := F0 m 921 ls [.int w1, .ref xo]) (by rw [ew1, show z_1.toNatClampNeg = i.toInt.toNat + 1 from (show z_1.toInt.toNat = _ by omega)]) ?_
  refine lv_aload_n hx hb dL_law_921 rfl (lv_at hl 3 rfl) ?_
  refine lv_iload_n hx hb dL_law_922 rfl (lv_at hl 0 rfl) ?_
  refine lv_iconst (v := 2) hx hb dL_law_923 (by decide) ?_
  refine lv_iadd hx hb dL_law_924 ?_
  refine lv_topi (fun z_2 ez_2 => ?_)
  have tz_2 : z_2.toInt = i.toInt + 2 := add_t ez_2 (show -2147483648 ≤ i.toInt + 2 by omega) (show i.toInt + 2 < 2147483648 by omega)
  refine va_sld (i := z_2) hx hb hX hbl hbA hS (vp_in_iff.mpr ⟨by omega, by omega⟩) dL_law_925 ?_
  refine W.eq (g2 := F0 m 926 ls [.int w2, .int w1, .ref xo]) (by rw [ew2, show z_2.toNatClampNeg = i.toInt.toNat + 2 from (show z_2.toInt.toNat = _ by omega)]) ?_
  refine t_calll (runV (As := [.int w1, .int w2]) (rest := []) ⟨hx, hb, hml, hown, hts⟩ (t_X9_late l D cy base τ G xo h_xo w1 w2) sV_L_98 hK (t_recv cf_1 hK hT h_xo) ⟨Nat.le_trans hZ hS.1, hT⟩ ⟨Nat.le_of_ble_eq_true rfl, Nat.le_of_ble_eq_true rfl⟩ rfl hl.1 rfl (Nat.le_of_ble_eq_true rfl) dL_law_926 ⟨by have q9 := hroom.1; omega, by have q9 := hroom.2; omega⟩) hS (fun r_3 G_3 H locs hF_3 hr_3 hT hS => ?_)
  have hF := hF.tr hF_3 rfl
  have hLI := hLI.fr EX.rf hF_3 rfl
  refine lv_pop2_2 hx hb dL_law_929 rfl ?_
  refine lv_aload_n hx hb dL_law_930 rfl (lv_at hl 1 rfl) ?_
  refine lv_aload_n hx hb dL_law_931 rfl (lv_at hl 3 rfl) ?_
  refine lv_iload_n hx hb dL_law_932 rfl (lv_at hl 0 rfl) ?_
  refine lv_iconst (v := 1) hx hb dL_law_933 (by decide) ?_
  refine lv_iadd hx hb dL_law_934 ?_
  refine lv_topi (fun z_4 ez_4 => ?_)
  have w_5 : z_1 = z_4 := ez_1.trans ez_4.symm
  subst w_5
  refine va_sld (i := z_1) hx hb hX hbl hbA hS (vp_in_iff.mpr ⟨by omega, by omega⟩) dL_law_935 ?_
  refine W.eq (g2 := F0 m 936 ls [.int w1, .ref mo]) (by rw [ew1, show z_1.toNatClampNeg = i.toInt.toNat + 1 from (show z_1.toInt.toNat = _ by omega)]) ?_
  refine lv_aload_n hx hb dL_law_936 rfl (lv_at hl 3 rfl) ?_
  refine lv_iload_n hx hb dL_law_937 rfl (lv_at hl 0 rfl) ?_
  refine lv_iconst (v := 2) hx hb dL_law_938 (by decide) ?_
  refine lv_iadd hx hb dL_law_939 ?_
  refine lv_topi (fun z_6 ez_6 => ?_)
  have w_7 : z_2 = z_6 := ez_2.trans ez_6.symm
  subst w_7
  refine va_sld (i := z_2) hx hb hX hbl hbA hS (vp_in_iff.mpr ⟨by omega, by omega⟩) dL_law_940 ?_
  refine W.eq (g2 := F0 m 941 ls [.int w2, .int w1, .ref mo]) (by rw [ew2, show z_2.toNatClampNeg = i.toInt.toNat + 2 from (show z_2.toInt.toNat = _ by omega)]) ?_
  refine t_calll (runV (As := [.int w1, .int w2]) (rest := []) ⟨hx, hb, hml, hown, hts⟩ (t_X10_late l D cy base τ G_3 mo h_mo w1 w2) sV_L_101 hK (t_recv cf_11 hK hT h_mo) ⟨Nat.le_trans hZ hS.1, hT⟩ ⟨Nat.le_of_ble_eq_true rfl, Nat.le_of_ble_eq_true rfl⟩ rfl hl.1 rfl (Nat.le_of_ble_eq_true rfl) dL_law_941 ⟨by have q9 := hroom.1; omega, by have q9 := hroom.2; omega⟩) hS (fun r_8 G_8 H locs hF_8 hr_8 hT hS => ?_)
  have hF := hF.tr hF_8 rfl
  have hLI := hLI.fr EX.rf hF_8 rfl
  refine lv_pop2_2 hx hb dL_law_944 rfl ?_
  refine lv_goto (tgt := 2266) hx hb dL_law_945 (by decide) ?_
  exact W.widen (k := cells + 10) (n := slots + 200) (by omega) (by omega) (kk τ G_8 H locs ls hLI hT hS (lv_sub hl [0, 1, 2, 3] rfl))
