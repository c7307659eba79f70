theorem dL_law_605 : decode cL_law 605 = .ok (.if_icmp .eq 429, 3) := by decide +kernel
theorem dL_law_608 : decode cL_law 608 = .ok (.iconst 0, 1) := by decide +kernel
theorem dL_law_609 : decode cL_law 609 = .ok (.ireturn, 1) := by decide +kernel
theorem dL_law_610 : decode cL_law 610 = .ok (.aload_n 1, 1) := by decide +kernel
theorem dL_law_611 : decode cL_law 611 = .ok (.aload_n 0, 1) := by decide +kernel
theorem dL_law_612 : decode cL_law 612 = .ok (.iload_n 3, 1) := by decide +kernel
theorem dL_law_613 : decode cL_law 613 = .ok (.iconst 1, 1) := by decide +kernel
theorem dL_law_614 : decode cL_law 614 = .ok (.iadd, 1) := by decide +kernel
theorem dL_law_615 : decode cL_law 615 = .ok (.iaload, 1) := by decide +kernel
theorem dL_law_616 : decode cL_law 616 = .ok (.aload_n 0, 1) := by decide +kernel
theorem dL_law_617 : decode cL_law 617 = .ok (.iload_n 3, 1) := by decide +kernel
theorem dL_law_618 : decode cL_law 618 = .ok (.iconst 2, 1) := by decide +kernel
theorem dL_law_619 : decode cL_law 619 = .ok (.iadd, 1) := by decide +kernel
theorem dL_law_620 : decode cL_law 620 = .ok (.iaload, 1) := by decide +kernel
theorem dL_law_621 : decode cL_law 621 = .ok (.invokevirtual 76, 3) := by decide +kernel
theorem dL_law_624 : decode cL_law 624 = .ok (.aload_n 2, 1) := by decide +kernel
theorem dL_law_625 : decode cL_law 625 = .ok (.aload_n 0, 1) := by decide +kernel
theorem dL_law_626 : decode cL_law 626 = .ok (.iload_n 3, 1) := by decide +kernel
theorem dL_law_627 : decode cL_law 627 = .ok (.iconst 1, 1) := by decide +kernel
theorem dL_law_628 : decode cL_law 628 = .ok (.iadd, 1) := by decide +kernel
theorem dL_law_629 : decode cL_law 629 = .ok (.iaload, 1) := by decide +kernel
theorem dL_law_630 : decode cL_law 630 = .ok (.aload_n 0, 1) := by decide +kernel
theorem dL_law_631 : decode cL_law 631 = .ok (.iload_n 3, 1) := by decide +kernel
theorem dL_law_632 : decode cL_law 632 = .ok (.iconst 2, 1) := by decide +kernel
theorem dL_law_633 : decode cL_law 633 = .ok (.iadd, 1) := by decide +kernel
theorem dL_law_634 : decode cL_law 634 = .ok (.iaload, 1) := by decide +kernel
theorem dL_law_635 : decode cL_law 635 = .ok (.invokevirtual 79, 3) := by decide +kernel
theorem dL_law_638 : decode cL_law 638 = .ok (.if_icmp .eq 396, 3) := by decide +kernel
theorem dL_law_641 : decode cL_law 641 = .ok (.iconst 0, 1) := by decide +kernel
theorem dL_law_642 : decode cL_law 642 = .ok (.ireturn, 1) := by decide +kernel
theorem dL_law_643 : decode cL_law 643 = .ok (.aload_n 1, 1) := by decide +kernel
theorem dL_law_644 : decode cL_law 644 = .ok (.aload_n 0, 1) := by decide +kernel
theorem dL_law_645 : decode cL_law 645 = .ok (.iload_n 3, 1) := by decide +kernel
theorem dL_law_646 : decode cL_law 646 = .ok (.iconst 1, 1) := by decide +kernel
theorem dL_law_647 : decode cL_law 647 = .ok (.iadd, 1) := by decide +kernel
theorem dL_law_648 : decode cL_law 648 = .ok (.iaload, 1) := by decide +kernel
theorem dL_law_649 : decode cL_law 649 = .ok (.invokevirtual 80, 3) := by decide +kernel
theorem dL_law_652 : decode cL_law 652 = .ok (.aload_n 2, 1) := by decide +kernel
theorem dL_law_653 : decode cL_law 653 = .ok (.aload_n 0, 1) := by decide +kernel
theorem dL_law_654 : decode cL_law 654 = .ok (.iload_n 3, 1) := by decide +kernel
theorem dL_law_655 : decode cL_law 655 = .ok (.iconst 1, 1) := by decide +kernel
theorem dL_law_656 : decode cL_law 656 = .ok (.iadd, 1) := by decide +kernel
theorem dL_law_657 : decode cL_law 657 = .ok (.iaload, 1) := by decide +kernel
theorem dL_law_658 : decode cL_law 658 = .ok (.invokevirtual 83, 3) := by decide +kernel
theorem dL_law_661 : decode cL_law 661 = .ok (.if_icmp .eq 373, 3) := by decide +kernel
theorem dL_law_664 : decode cL_law 664 = .ok (.iconst 0, 1) := by decide +kernel
theorem dL_law_665 : decode cL_law 665 = .ok (.ireturn, 1) := by decide +kernel
theorem dL_law_666 : decode cL_law 666 = .ok (.aload_n 1, 1) := by decide +kernel
theorem dL_law_667 : decode cL_law 667 = .ok (.aload_n 0, 1) := by decide +kernel
theorem dL_law_668 : decode cL_law 668 = .ok (.iload_n 3, 1) := by decide +kernel
theorem dL_law_669 : decode cL_law 669 = .ok (.iconst 1, 1) := by decide +kernel
theorem dL_law_670 : decode cL_law 670 = .ok (.iadd, 1) := by decide +kernel
theorem dL_law_671 : decode cL_law 671 = .ok (.iaload, 1) := by decide +kernel
theorem dL_law_672 : decode cL_law 672 = .ok (.aload_n 0, 1) := by decide +kernel
theorem dL_law_673 : decode cL_law 673 = .ok (.iload_n 3, 1) := by decide +kernel
theorem dL_law_674 : decode cL_law 674 = .ok (.iconst 2, 1) := by decide +kernel
theorem dL_law_675 : decode cL_law 675 = .ok (.iadd, 1) := by decide +kernel
theorem dL_law_676 : decode cL_law 676 = .ok (.iaload, 1) := by decide +kernel
theorem dL_law_677 : decode cL_law 677 = .ok (.invokevirtual 84, 3) := by decide +kernel
theorem dL_law_680 : decode cL_law 680 = .ok (.aload_n 2, 1) := by decide +kernel
theorem dL_law_681 : decode cL_law 681 = .ok (.aload_n 0, 1) := by decide +kernel
theorem dL_law_682 : decode cL_law 682 = .ok (.iload_n 3, 1) := by decide +kernel
theorem dL_law_683 : decode cL_law 683 = .ok (.iconst 1, 1) := by decide +kernel
theorem dL_law_684 : decode cL_law 684 = .ok (.iadd, 1) := by decide +kernel
theorem dL_law_685 : decode cL_law 685 = .ok (.iaload, 1) := by decide +kernel
theorem dL_law_686 : decode cL_law 686 = .ok (.aload_n 0, 1) := by decide +kernel
theorem dL_law_687 : decode cL_law 687 = .ok (.iload_n 3, 1) := by decide +kernel
theorem dL_law_688 : decode cL_law 688 = .ok (.iconst 2, 1) := by decide +kernel
theorem dL_law_689 : decode cL_law 689 = .ok (.iadd, 1) := by decide +kernel
theorem dL_law_690 : decode cL_law 690 = .ok (.iaload, 1) := by decide +kernel
theorem dL_law_691 : decode cL_law 691 = .ok (.invokevirtual 87, 3) := by decide +kernel
theorem dL_law_694 : decode cL_law 694 = .ok (.if_icmp .eq 340, 3) := by decide +kernel
theorem dL_law_697 : decode cL_law 697 = .ok (.iconst 0, 1) := by decide +kernel
theorem dL_law_698 : decode cL_law 698 = .ok (.ireturn, 1) := by decide +kernel
theorem dL_law_699 : decode cL_law 699 = .ok (.aload_n 1, 1) := by decide +kernel
theorem dL_law_700 : decode cL_law 700 = .ok (.aload_n 0, 1) := by decide +kernel
theorem dL_law_701 : decode cL_law 701 = .ok (.iload_n 3, 1) := by decide +kernel
theorem dL_law_702 : decode cL_law 702 = .ok (.iconst 1, 1) := by decide +kernel
theorem dL_law_703 : decode cL_law 703 = .ok (.iadd, 1) := by decide +kernel
theorem dL_law_704 : decode cL_law 704 = .ok (.iaload, 1) := by decide +kernel
theorem dL_law_705 : decode cL_law 705 = .ok (.aload_n 0, 1) := by decide +kernel
theorem dL_law_706 : decode cL_law 706 = .ok (.iload_n 3, 1) := by decide +kernel
theorem dL_law_707 : decode cL_law 707 = .ok (.iconst 2, 1) := by decide +kernel
theorem dL_law_708 : decode cL_law 708 = .ok (.iadd, 1) := by decide +kernel
theorem dL_law_709 : decode cL_law 709 = .ok (.iaload, 1) := by decide +kernel
theorem dL_law_710 : decode cL_law 710 = .ok (.aload_n 0, 1) := by decide +kernel
theorem dL_law_711 : decode cL_law 711 = .ok (.iload_n 3, 1) := by decide +kernel
theorem dL_law_712 : decode cL_law 712 = .ok (.iconst 3, 1) := by decide +kernel
theorem dL_law_713 : decode cL_law 713 = .ok (.iadd, 1) := by decide +kernel
theorem dL_law_714 : decode cL_law 714 = .ok (.iaload, 1) := by decide +kernel
theorem dL_law_715 : decode cL_law 715 = .ok (.invokevirtual 88, 3) := by decide +kernel
theorem dL_law_718 : decode cL_law 718 = .ok (.aload_n 2, 1) := by decide +kernel
theorem dL_law_719 : decode cL_law 719 = .ok (.aload_n 0, 1) := by decide +kernel
theorem dL_law_720 : decode cL_law 720 = .ok (.iload_n 3, 1) := by decide +kernel
theorem dL_law_721 : decode cL_law 721 = .ok (.iconst 1, 1) := by decide +kernel
theorem dL_law_722 : decode cL_law 722 = .ok (.iadd, 1) := by decide +kernel
theorem dL_law_723 : decode cL_law 723 = .ok (.iaload, 1) := by decide +kernel
theorem dL_law_724 : decode cL_law 724 = .ok (.aload_n 0, 1) := by decide +kernel
theorem dL_law_725 : decode cL_law 725 = .ok (.iload_n 3, 1) := by decide +kernel
theorem dL_law_726 : decode cL_law 726 = .ok (.iconst 2, 1) := by decide +kernel
theorem dL_law_727 : decode cL_law 727 = .ok (.iadd, 1) := by decide +kernel
theorem dL_law_728 : decode cL_law 728 = .ok (.iaload, 1) := by decide +kernel
theorem dL_law_729 : decode cL_law 729 = .ok (.aload_n 0, 1) := by decide +kernel
theorem dL_law_730 : decode cL_law 730 = .ok (.iload_n 3, 1) := by decide +kernel
theorem dL_law_731 : decode cL_law 731 = .ok (.iconst 3, 1) := by decide +kernel
theorem dL_law_732 : decode cL_law 732 = .ok (.iadd, 1) := by decide +kernel
theorem dL_law_733 : decode cL_law 733 = .ok (.iaload, 1) := by decide +kernel
theorem dL_law_734 : decode cL_law 734 = .ok (.invokevirtual 91, 3) := by decide +kernel
theorem dL_law_737 : decode cL_law 737 = .ok (.if_icmp .eq 297, 3) := by decide +kernel
theorem dL_law_740 : decode cL_law 740 = .ok (.iconst 0, 1) := by decide +kernel
theorem dL_law_741 : decode cL_law 741 = .ok (.ireturn, 1) := by decide +kernel
theorem dL_law_742 : decode cL_law 742 = .ok (.aload_n 1, 1) := by decide +kernel
theorem dL_law_743 : decode cL_law 743 = .ok (.aload_n 0, 1) := by decide +kernel
theorem dL_law_744 : decode cL_law 744 = .ok (.iload_n 3, 1) := by decide +kernel
theorem dL_law_745 : decode cL_law 745 = .ok (.iconst 1, 1) := by decide +kernel
theorem dL_law_746 : decode cL_law 746 = .ok (.iadd, 1) := by decide +kernel
theorem dL_law_747 : decode cL_law 747 = .ok (.iaload, 1) := by decide +kernel
theorem dL_law_748 : decode cL_law 748 = .ok (.invokevirtual 92, 3) := by decide +kernel
theorem dL_law_751 : decode cL_law 751 = .ok (.aload_n 2, 1) := by decide +kernel
theorem dL_law_752 : decode cL_law 752 = .ok (.aload_n 0, 1) := by decide +kernel
theorem dL_law_753 : decode cL_law 753 = .ok (.iload_n 3, 1) := by decide +kernel
theorem dL_law_754 : decode cL_law 754 = .ok (.iconst 1, 1) := by decide +kernel
theorem dL_law_755 : decode cL_law 755 = .ok (.iadd, 1) := by decide +kernel
theorem dL_law_756 : decode cL_law 756 = .ok (.iaload, 1) := by decide +kernel
theorem dL_law_757 : decode cL_law 757 = .ok (.invokevirtual 95, 3) := by decide +kernel
theorem dL_law_760 : decode cL_law 760 = .ok (.if_icmp .eq 274, 3) := by decide +kernel
theorem dL_law_763 : decode cL_law 763 = .ok (.iconst 0, 1) := by decide +kernel
theorem dL_law_764 : decode cL_law 764 = .ok (.ireturn, 1) := by decide +kernel
theorem dL_law_765 : decode cL_law 765 = .ok (.aload_n 1, 1) := by decide +kernel
theorem dL_law_766 : decode cL_law 766 = .ok (.invokevirtual 96, 3) := by decide +kernel
theorem dL_law_769 : decode cL_law 769 = .ok (.aload_n 2, 1) := by decide +kernel
theorem dL_law_770 : decode cL_law 770 = .ok (.invokevirtual 99, 3) := by decide +kernel
theorem dL_law_773 : decode cL_law 773 = .ok (.if_icmp .eq 261, 3) := by decide +kernel
theorem dL_law_776 : decode cL_law 776 = .ok (.iconst 0, 1) := by decide +kernel
theorem dL_law_777 : decode cL_law 777 = .ok (.ireturn, 1) := by decide +kernel
theorem dL_law_778 : decode cL_law 778 = .ok (.aload_n 1, 1) := by decide +kernel
theorem dL_law_779 : decode cL_law 779 = .ok (.aload_n 0, 1) := by decide +kernel
theorem dL_law_780 : decode cL_law 780 = .ok (.iload_n 3, 1) := by decide +kernel
theorem dL_law_781 : decode cL_law 781 = .ok (.iconst 1, 1) := by decide +kernel
theorem dL_law_782 : decode cL_law 782 = .ok (.iadd, 1) := by decide +kernel
theorem dL_law_783 : decode cL_law 783 = .ok (.iaload, 1) := by decide +kernel
theorem dL_law_784 : decode cL_law 784 = .ok (.invokevirtual 100, 3) := by decide +kernel
theorem dL_law_787 : decode cL_law 787 = .ok (.aload_n 2, 1) := by decide +kernel
theorem dL_law_788 : decode cL_law 788 = .ok (.aload_n 0, 1) := by decide +kernel
theorem dL_law_789 : decode cL_law 789 = .ok (.iload_n 3, 1) := by decide +kernel
theorem dL_law_790 : decode cL_law 790 = .ok (.iconst 1, 1) := by decide +kernel
theorem dL_law_791 : decode cL_law 791 = .ok (.iadd, 1) := by decide +kernel
theorem dL_law_792 : decode cL_law 792 = .ok (.iaload, 1) := by decide +kernel
theorem dL_law_793 : decode cL_law 793 = .ok (.invokevirtual 103, 3) := by decide +kernel
theorem dL_law_796 : decode cL_law 796 = .ok (.if_icmp .eq 238, 3) := by decide +kernel
theorem dL_law_799 : decode cL_law 799 = .ok (.iconst 0, 1) := by decide +kernel
theorem dL_law_800 : decode cL_law 800 = .ok (.ireturn, 1) := by decide +kernel
theorem dL_law_801 : decode cL_law 801 = .ok (.aload_n 1, 1) := by decide +kernel
theorem dL_law_802 : decode cL_law 802 = .ok (.aload_n 0, 1) := by decide +kernel
theorem dL_law_803 : decode cL_law 803 = .ok (.iload_n 3, 1) := by decide +kernel
theorem dL_law_804 : decode cL_law 804 = .ok (.iconst 1, 1) := by decide +kernel
theorem dL_law_805 : decode cL_law 805 = .ok (.iadd, 1) := by decide +kernel
theorem dL_law_806 : decode cL_law 806 = .ok (.iaload, 1) := by decide +kernel
theorem dL_law_807 : decode cL_law 807 = .ok (.invokevirtual 104, 3) := by decide +kernel
theorem dL_law_810 : decode cL_law 810 = .ok (.aload_n 2, 1) := by decide +kernel
theorem dL_law_811 : decode cL_law 811 = .ok (.aload_n 0, 1) := by decide +kernel
theorem dL_law_812 : decode cL_law 812 = .ok (.iload_n 3, 1) := by decide +kernel
theorem dL_law_813 : decode cL_law 813 = .ok (.iconst 1, 1) := by decide +kernel
theorem dL_law_814 : decode cL_law 814 = .ok (.iadd, 1) := by decide +kernel
theorem dL_law_815 : decode cL_law 815 = .ok (.iaload, 1) := by decide +kernel
theorem dL_law_816 : decode cL_law 816 = .ok (.invokevirtual 107, 3) := by decide +kernel
theorem dL_law_819 : decode cL_law 819 = .ok (.if_icmp .eq 215, 3) := by decide +kernel
theorem dL_law_822 : decode cL_law 822 = .ok (.iconst 0, 1) := by decide +kernel
theorem dL_law_823 : decode cL_law 823 = .ok (.ireturn, 1) := by decide +kernel
theorem dL_law_824 : decode cL_law 824 = .ok (.aload_n 1, 1) := by decide +kernel
theorem dL_law_825 : decode cL_law 825 = .ok (.aload_n 0, 1) := by decide +kernel
theorem dL_law_826 : decode cL_law 826 = .ok (.iload_n 3, 1) := by decide +kernel
theorem dL_law_827 : decode cL_law 827 = .ok (.iconst 1, 1) := by decide +kernel
theorem dL_law_828 : decode cL_law 828 = .ok (.iadd, 1) := by decide +kernel
theorem dL_law_829 : decode cL_law 829 = .ok (.iaload, 1) := by decide +kernel
theorem dL_law_830 : decode cL_law 830 = .ok (.invokevirtual 108, 3) := by decide +kernel
theorem dL_law_833 : decode cL_law 833 = .ok (.aload_n 2, 1) := by decide +kernel
theorem dL_law_834 : decode cL_law 834 = .ok (.aload_n 0, 1) := by decide +kernel
theorem dL_law_835 : decode cL_law 835 = .ok (.iload_n 3, 1) := by decide +kernel
theorem dL_law_836 : decode cL_law 836 = .ok (.iconst 1, 1) := by decide +kernel
theorem dL_law_837 : decode cL_law 837 = .ok (.iadd, 1) := by decide +kernel
theorem dL_law_838 : decode cL_law 838 = .ok (.iaload, 1) := by decide +kernel
theorem dL_law_839 : decode cL_law 839 = .ok (.invokevirtual 111, 3) := by decide +kernel
theorem dL_law_842 : decode cL_law 842 = .ok (.if_icmp .eq 192, 3) := by decide +kernel
theorem dL_law_845 : decode cL_law 845 = .ok (.iconst 0, 1) := by decide +kernel
theorem dL_law_846 : decode cL_law 846 = .ok (.ireturn, 1) := by decide +kernel
theorem dL_law_847 : decode cL_law 847 = .ok (.aload_n 1, 1) := by decide +kernel
theorem dL_law_848 : decode cL_law 848 = .ok (.invokevirtual 112, 3) := by decide +kernel
theorem dL_law_851 : decode cL_law 851 = .ok (.aload_n 2, 1) := by decide +kernel
theorem dL_law_852 : decode cL_law 852 = .ok (.invokevirtual 115, 3) := by decide +kernel
theorem dL_law_855 : decode cL_law 855 = .ok (.if_icmp .eq 179, 3) := by decide +kernel
theorem dL_law_858 : decode cL_law 858 = .ok (.iconst 0, 1) := by decide +kernel
theorem dL_law_859 : decode cL_law 859 = .ok (.ireturn, 1) := by decide +kernel
theorem dL_law_860 : decode cL_law 860 = .ok (.aload_n 1, 1) := by decide +kernel
theorem dL_law_861 : decode cL_law 861 = .ok (.aload_n 0, 1) := by decide +kernel
theorem dL_law_862 : decode cL_law 862 = .ok (.iload_n 3, 1) := by decide +kernel
theorem dL_law_863 : decode cL_law 863 = .ok (.iconst 1, 1) := by decide +kernel
theorem dL_law_864 : decode cL_law 864 = .ok (.iadd, 1) := by decide +kernel
theorem dL_law_865 : decode cL_law 865 = .ok (.iaload, 1) := by decide +kernel
theorem dL_law_866 : decode cL_law 866 = .ok (.aload_n 0, 1) := by decide +kernel
theorem dL_law_867 : decode cL_law 867 = .ok (.iload_n 3, 1) := by decide +kernel
theorem dL_law_868 : decode cL_law 868 = .ok (.iconst 2, 1) := by decide +kernel
theorem dL_law_869 : decode cL_law 869 = .ok (.iadd, 1) := by decide +kernel
theorem dL_law_870 : decode cL_law 870 = .ok (.iaload, 1) := by decide +kernel
theorem dL_law_871 : decode cL_law 871 = .ok (.aload_n 0, 1) := by decide +kernel
theorem dL_law_872 : decode cL_law 872 = .ok (.iload_n 3, 1) := by decide +kernel
theorem dL_law_873 : decode cL_law 873 = .ok (.iconst 3, 1) := by decide +kernel
theorem dL_law_874 : decode cL_law 874 = .ok (.iadd, 1) := by decide +kernel
theorem dL_law_875 : decode cL_law 875 = .ok (.iaload, 1) := by decide +kernel
theorem dL_law_876 : decode cL_law 876 = .ok (.ifCond .eq 7, 3) := by decide +kernel
theorem dL_law_879 : decode cL_law 879 = .ok (.iconst 1, 1) := by decide +kernel
theorem dL_law_880 : decode cL_law 880 = .ok (.goto 4, 3) := by decide +kernel
theorem dL_law_883 : decode cL_law 883 = .ok (.iconst 0, 1) := by decide +kernel
theorem dL_law_884 : decode cL_law 884 = .ok (.invokevirtual 116, 3) := by decide +kernel
theorem dL_law_887 : decode cL_law 887 = .ok (.aload_n 2, 1) := by decide +kernel
theorem dL_law_888 : decode cL_law 888 = .ok (.aload_n 0, 1) := by decide +kernel
theorem dL_law_889 : decode cL_law 889 = .ok (.iload_n 3, 1) := by decide +kernel
theorem dL_law_890 : decode cL_law 890 = .ok (.iconst 1, 1) := by decide +kernel
theorem dL_law_891 : decode cL_law 891 = .ok (.iadd, 1) := by decide +kernel
theorem dL_law_892 : decode cL_law 892 = .ok (.iaload, 1) := by decide +kernel
theorem dL_law_893 : decode cL_law 893 = .ok (.aload_n 0, 1) := by decide +kernel
theorem dL_law_894 : decode cL_law 894 = .ok (.iload_n 3, 1) := by decide +kernel
theorem dL_law_895 : decode cL_law 895 = .ok (.iconst 2, 1) := by decide +kernel
theorem dL_law_896 : decode cL_law 896 = .ok (.iadd, 1) := by decide +kernel
theorem dL_law_897 : decode cL_law 897 = .ok (.iaload, 1) := by decide +kernel
theorem dL_law_898 : decode cL_law 898 = .ok (.aload_n 0, 1) := by decide +kernel
theorem dL_law_899 : decode cL_law 899 = .ok (.iload_n 3, 1) := by decide +kernel
theorem dL_law_900 : decode cL_law 900 = .ok (.iconst 3, 1) := by decide +kernel
theorem dL_law_901 : decode cL_law 901 = .ok (.iadd, 1) := by decide +kernel
theorem dL_law_902 : decode cL_law 902 = .ok (.iaload, 1) := by decide +kernel
theorem dL_law_903 : decode cL_law 903 = .ok (.ifCond .eq 7, 3) := by decide +kernel
theorem dL_law_906 : decode cL_law 906 = .ok (.iconst 1, 1) := by decide +kernel
theorem dL_law_907 : decode cL_law 907 = .ok (.goto 4, 3) := by decide +kernel
theorem dL_law_910 : decode cL_law 910 = .ok (.iconst 0, 1) := by decide +kernel
theorem dL_law_911 : decode cL_law 911 = .ok (.invokevirtual 120, 3) := by decide +kernel
theorem dL_law_914 : decode cL_law 914 = .ok (.if_icmp .eq 120, 3) := by decide +kernel
theorem dL_law_917 : decode cL_law 917 = .ok (.iconst 0, 1) := by decide +kernel
theorem dL_law_918 : decode cL_law 918 = .ok (.ireturn, 1) := by decide +kernel
theorem dL_law_919 : decode cL_law 919 = .ok (.aload_n 1, 1) := by decide +kernel
theorem dL_law_920 : decode cL_law 920 = .ok (.aload_n 0, 1) := by decide +kernel
theorem dL_law_921 : decode cL_law 921 = .ok (.iload_n 3, 1) := by decide +kernel
theorem dL_law_922 : decode cL_law 922 = .ok (.iconst 1, 1) := by decide +kernel
theorem dL_law_923 : decode cL_law 923 = .ok (.iadd, 1) := by decide +kernel
theorem dL_law_924 : decode cL_law 924 = .ok (.iaload, 1) := by decide +kernel
theorem dL_law_925 : decode cL_law 925 = .ok (.aload_n 0, 1) := by decide +kernel
theorem dL_law_926 : decode cL_law 926 = .ok (.iload_n 3, 1) := by decide +kernel
theorem dL_law_927 : decode cL_law 927 = .ok (.iconst 2, 1) := by decide +kernel
theorem dL_law_928 : decode cL_law 928 = .ok (.iadd, 1) := by decide +kernel
theorem dL_law_929 : decode cL_law 929 = .ok (.iaload, 1) := by decide +kernel
theorem dL_law_930 : decode cL_law 930 = .ok (.invokevirtual 121, 3) := by decide +kernel
theorem dL_law_933 : decode cL_law 933 = .ok (.aload_n 2, 1) := by decide +kernel
theorem dL_law_934 : decode cL_law 934 = .ok (.aload_n 0, 1) := by decide +kernel
theorem dL_law_935 : decode cL_law 935 = .ok (.iload_n 3, 1) := by decide +kernel
theorem dL_law_936 : decode cL_law 936 = .ok (.iconst 1, 1) := by decide +kernel
theorem dL_law_937 : decode cL_law 937 = .ok (.iadd, 1) := by decide +kernel
theorem dL_law_938 : decode cL_law 938 = .ok (.iaload, 1) := by decide +kernel
theorem dL_law_939 : decode cL_law 939 = .ok (.aload_n 0, 1) := by decide +kernel
theorem dL_law_940 : decode cL_law 940 = .ok (.iload_n 3, 1) := by decide +kernel
theorem dL_law_941 : decode cL_law 941 = .ok (.iconst 2, 1) := by decide +kernel
theorem dL_law_942 : decode cL_law 942 = .ok (.iadd, 1) := by decide +kernel
