/-! THE LAW: its instructions -/
theorem dl_652 : decode code 652 = .ok (.ireturn, 1) := by decide +kernel
theorem dl_653 : decode code 653 = .ok (.aload_n 1, 1) := by decide +kernel
theorem dl_654 : decode code 654 = .ok (.aload_n 0, 1) := by decide +kernel
theorem dl_655 : decode code 655 = .ok (.iload_n 3, 1) := by decide +kernel
theorem dl_656 : decode code 656 = .ok (.iconst 1, 1) := by decide +kernel
theorem dl_657 : decode code 657 = .ok (.iadd, 1) := by decide +kernel
theorem dl_658 : decode code 658 = .ok (.iaload, 1) := by decide +kernel
theorem dl_659 : decode code 659 = .ok (.aload_n 0, 1) := by decide +kernel
theorem dl_660 : decode code 660 = .ok (.iload_n 3, 1) := by decide +kernel
theorem dl_661 : decode code 661 = .ok (.iconst 2, 1) := by decide +kernel
theorem dl_662 : decode code 662 = .ok (.iadd, 1) := by decide +kernel
theorem dl_663 : decode code 663 = .ok (.iaload, 1) := by decide +kernel
theorem dl_664 : decode code 664 = .ok (.invokevirtual 71, 3) := by decide +kernel
theorem dl_667 : decode code 667 = .ok (.aload_n 2, 1) := by decide +kernel
theorem dl_668 : decode code 668 = .ok (.aload_n 0, 1) := by decide +kernel
theorem dl_669 : decode code 669 = .ok (.iload_n 3, 1) := by decide +kernel
theorem dl_670 : decode code 670 = .ok (.iconst 1, 1) := by decide +kernel
theorem dl_671 : decode code 671 = .ok (.iadd, 1) := by decide +kernel
theorem dl_672 : decode code 672 = .ok (.iaload, 1) := by decide +kernel
theorem dl_673 : decode code 673 = .ok (.aload_n 0, 1) := by decide +kernel
theorem dl_674 : decode code 674 = .ok (.iload_n 3, 1) := by decide +kernel
theorem dl_675 : decode code 675 = .ok (.iconst 2, 1) := by decide +kernel
theorem dl_676 : decode code 676 = .ok (.iadd, 1) := by decide +kernel
theorem dl_677 : decode code 677 = .ok (.iaload, 1) := by decide +kernel
theorem dl_678 : decode code 678 = .ok (.invokevirtual 74, 3) := by decide +kernel
theorem dl_681 : decode code 681 = .ok (.if_icmp .eq 688, 3) := by decide +kernel
theorem dl_684 : decode code 684 = .ok (.iconst 0, 1) := by decide +kernel
theorem dl_685 : decode code 685 = .ok (.ireturn, 1) := by decide +kernel
theorem dl_686 : decode code 686 = .ok (.aload_n 1, 1) := by decide +kernel
theorem dl_687 : decode code 687 = .ok (.aload_n 0, 1) := by decide +kernel
theorem dl_688 : decode code 688 = .ok (.iload_n 3, 1) := by decide +kernel
theorem dl_689 : decode code 689 = .ok (.iconst 1, 1) := by decide +kernel
theorem dl_690 : decode code 690 = .ok (.iadd, 1) := by decide +kernel
theorem dl_691 : decode code 691 = .ok (.iaload, 1) := by decide +kernel
theorem dl_692 : decode code 692 = .ok (.aload_n 0, 1) := by decide +kernel
theorem dl_693 : decode code 693 = .ok (.iload_n 3, 1) := by decide +kernel
theorem dl_694 : decode code 694 = .ok (.iconst 2, 1) := by decide +kernel
theorem dl_695 : decode code 695 = .ok (.iadd, 1) := by decide +kernel
theorem dl_696 : decode code 696 = .ok (.iaload, 1) := by decide +kernel
theorem dl_697 : decode code 697 = .ok (.aload_n 0, 1) := by decide +kernel
theorem dl_698 : decode code 698 = .ok (.iload_n 3, 1) := by decide +kernel
theorem dl_699 : decode code 699 = .ok (.iconst 3, 1) := by decide +kernel
theorem dl_700 : decode code 700 = .ok (.iadd, 1) := by decide +kernel
theorem dl_701 : decode code 701 = .ok (.iaload, 1) := by decide +kernel
theorem dl_702 : decode code 702 = .ok (.invokevirtual 75, 3) := by decide +kernel
theorem dl_705 : decode code 705 = .ok (.aload_n 2, 1) := by decide +kernel
theorem dl_706 : decode code 706 = .ok (.aload_n 0, 1) := by decide +kernel
theorem dl_707 : decode code 707 = .ok (.iload_n 3, 1) := by decide +kernel
theorem dl_708 : decode code 708 = .ok (.iconst 1, 1) := by decide +kernel
theorem dl_709 : decode code 709 = .ok (.iadd, 1) := by decide +kernel
theorem dl_710 : decode code 710 = .ok (.iaload, 1) := by decide +kernel
theorem dl_711 : decode code 711 = .ok (.aload_n 0, 1) := by decide +kernel
theorem dl_712 : decode code 712 = .ok (.iload_n 3, 1) := by decide +kernel
theorem dl_713 : decode code 713 = .ok (.iconst 2, 1) := by decide +kernel
theorem dl_714 : decode code 714 = .ok (.iadd, 1) := by decide +kernel
theorem dl_715 : decode code 715 = .ok (.iaload, 1) := by decide +kernel
theorem dl_716 : decode code 716 = .ok (.aload_n 0, 1) := by decide +kernel
theorem dl_717 : decode code 717 = .ok (.iload_n 3, 1) := by decide +kernel
theorem dl_718 : decode code 718 = .ok (.iconst 3, 1) := by decide +kernel
theorem dl_719 : decode code 719 = .ok (.iadd, 1) := by decide +kernel
theorem dl_720 : decode code 720 = .ok (.iaload, 1) := by decide +kernel
theorem dl_721 : decode code 721 = .ok (.invokevirtual 78, 3) := by decide +kernel
theorem dl_724 : decode code 724 = .ok (.if_icmp .eq 645, 3) := by decide +kernel
theorem dl_727 : decode code 727 = .ok (.iconst 0, 1) := by decide +kernel
theorem dl_728 : decode code 728 = .ok (.ireturn, 1) := by decide +kernel
theorem dl_729 : decode code 729 = .ok (.aload_n 1, 1) := by decide +kernel
theorem dl_730 : decode code 730 = .ok (.aload_n 0, 1) := by decide +kernel
theorem dl_731 : decode code 731 = .ok (.iload_n 3, 1) := by decide +kernel
theorem dl_732 : decode code 732 = .ok (.iconst 1, 1) := by decide +kernel
theorem dl_733 : decode code 733 = .ok (.iadd, 1) := by decide +kernel
theorem dl_734 : decode code 734 = .ok (.iaload, 1) := by decide +kernel
theorem dl_735 : decode code 735 = .ok (.aload_n 0, 1) := by decide +kernel
theorem dl_736 : decode code 736 = .ok (.iload_n 3, 1) := by decide +kernel
theorem dl_737 : decode code 737 = .ok (.iconst 2, 1) := by decide +kernel
theorem dl_738 : decode code 738 = .ok (.iadd, 1) := by decide +kernel
theorem dl_739 : decode code 739 = .ok (.iaload, 1) := by decide +kernel
theorem dl_740 : decode code 740 = .ok (.aload_n 0, 1) := by decide +kernel
theorem dl_741 : decode code 741 = .ok (.iload_n 3, 1) := by decide +kernel
theorem dl_742 : decode code 742 = .ok (.iconst 3, 1) := by decide +kernel
theorem dl_743 : decode code 743 = .ok (.iadd, 1) := by decide +kernel
theorem dl_744 : decode code 744 = .ok (.iaload, 1) := by decide +kernel
theorem dl_745 : decode code 745 = .ok (.invokevirtual 79, 3) := by decide +kernel
theorem dl_748 : decode code 748 = .ok (.aload_n 2, 1) := by decide +kernel
theorem dl_749 : decode code 749 = .ok (.aload_n 0, 1) := by decide +kernel
theorem dl_750 : decode code 750 = .ok (.iload_n 3, 1) := by decide +kernel
theorem dl_751 : decode code 751 = .ok (.iconst 1, 1) := by decide +kernel
theorem dl_752 : decode code 752 = .ok (.iadd, 1) := by decide +kernel
theorem dl_753 : decode code 753 = .ok (.iaload, 1) := by decide +kernel
theorem dl_754 : decode code 754 = .ok (.aload_n 0, 1) := by decide +kernel
theorem dl_755 : decode code 755 = .ok (.iload_n 3, 1) := by decide +kernel
theorem dl_756 : decode code 756 = .ok (.iconst 2, 1) := by decide +kernel
theorem dl_757 : decode code 757 = .ok (.iadd, 1) := by decide +kernel
theorem dl_758 : decode code 758 = .ok (.iaload, 1) := by decide +kernel
theorem dl_759 : decode code 759 = .ok (.aload_n 0, 1) := by decide +kernel
theorem dl_760 : decode code 760 = .ok (.iload_n 3, 1) := by decide +kernel
theorem dl_761 : decode code 761 = .ok (.iconst 3, 1) := by decide +kernel
theorem dl_762 : decode code 762 = .ok (.iadd, 1) := by decide +kernel
theorem dl_763 : decode code 763 = .ok (.iaload, 1) := by decide +kernel
theorem dl_764 : decode code 764 = .ok (.invokevirtual 82, 3) := by decide +kernel
theorem dl_767 : decode code 767 = .ok (.if_icmp .eq 602, 3) := by decide +kernel
theorem dl_770 : decode code 770 = .ok (.iconst 0, 1) := by decide +kernel
theorem dl_771 : decode code 771 = .ok (.ireturn, 1) := by decide +kernel
theorem dl_772 : decode code 772 = .ok (.aload_n 1, 1) := by decide +kernel
theorem dl_773 : decode code 773 = .ok (.aload_n 0, 1) := by decide +kernel
theorem dl_774 : decode code 774 = .ok (.iload_n 3, 1) := by decide +kernel
theorem dl_775 : decode code 775 = .ok (.iconst 1, 1) := by decide +kernel
theorem dl_776 : decode code 776 = .ok (.iadd, 1) := by decide +kernel
theorem dl_777 : decode code 777 = .ok (.iaload, 1) := by decide +kernel
theorem dl_778 : decode code 778 = .ok (.invokevirtual 83, 3) := by decide +kernel
theorem dl_781 : decode code 781 = .ok (.aload_n 2, 1) := by decide +kernel
theorem dl_782 : decode code 782 = .ok (.aload_n 0, 1) := by decide +kernel
theorem dl_783 : decode code 783 = .ok (.iload_n 3, 1) := by decide +kernel
theorem dl_784 : decode code 784 = .ok (.iconst 1, 1) := by decide +kernel
theorem dl_785 : decode code 785 = .ok (.iadd, 1) := by decide +kernel
theorem dl_786 : decode code 786 = .ok (.iaload, 1) := by decide +kernel
theorem dl_787 : decode code 787 = .ok (.invokevirtual 86, 3) := by decide +kernel
theorem dl_790 : decode code 790 = .ok (.if_icmp .eq 579, 3) := by decide +kernel
theorem dl_793 : decode code 793 = .ok (.iconst 0, 1) := by decide +kernel
theorem dl_794 : decode code 794 = .ok (.ireturn, 1) := by decide +kernel
theorem dl_795 : decode code 795 = .ok (.aload_n 1, 1) := by decide +kernel
theorem dl_796 : decode code 796 = .ok (.aload_n 0, 1) := by decide +kernel
theorem dl_797 : decode code 797 = .ok (.iload_n 3, 1) := by decide +kernel
theorem dl_798 : decode code 798 = .ok (.iconst 1, 1) := by decide +kernel
theorem dl_799 : decode code 799 = .ok (.iadd, 1) := by decide +kernel
theorem dl_800 : decode code 800 = .ok (.iaload, 1) := by decide +kernel
theorem dl_801 : decode code 801 = .ok (.aload_n 0, 1) := by decide +kernel
theorem dl_802 : decode code 802 = .ok (.iload_n 3, 1) := by decide +kernel
theorem dl_803 : decode code 803 = .ok (.iconst 2, 1) := by decide +kernel
theorem dl_804 : decode code 804 = .ok (.iadd, 1) := by decide +kernel
theorem dl_805 : decode code 805 = .ok (.iaload, 1) := by decide +kernel
theorem dl_806 : decode code 806 = .ok (.aload_n 0, 1) := by decide +kernel
theorem dl_807 : decode code 807 = .ok (.iload_n 3, 1) := by decide +kernel
theorem dl_808 : decode code 808 = .ok (.iconst 3, 1) := by decide +kernel
theorem dl_809 : decode code 809 = .ok (.iadd, 1) := by decide +kernel
theorem dl_810 : decode code 810 = .ok (.iaload, 1) := by decide +kernel
theorem dl_811 : decode code 811 = .ok (.invokevirtual 87, 3) := by decide +kernel
theorem dl_814 : decode code 814 = .ok (.aload_n 2, 1) := by decide +kernel
theorem dl_815 : decode code 815 = .ok (.aload_n 0, 1) := by decide +kernel
theorem dl_816 : decode code 816 = .ok (.iload_n 3, 1) := by decide +kernel
theorem dl_817 : decode code 817 = .ok (.iconst 1, 1) := by decide +kernel
theorem dl_818 : decode code 818 = .ok (.iadd, 1) := by decide +kernel
theorem dl_819 : decode code 819 = .ok (.iaload, 1) := by decide +kernel
theorem dl_820 : decode code 820 = .ok (.aload_n 0, 1) := by decide +kernel
theorem dl_821 : decode code 821 = .ok (.iload_n 3, 1) := by decide +kernel
theorem dl_822 : decode code 822 = .ok (.iconst 2, 1) := by decide +kernel
theorem dl_823 : decode code 823 = .ok (.iadd, 1) := by decide +kernel
theorem dl_824 : decode code 824 = .ok (.iaload, 1) := by decide +kernel
theorem dl_825 : decode code 825 = .ok (.aload_n 0, 1) := by decide +kernel
theorem dl_826 : decode code 826 = .ok (.iload_n 3, 1) := by decide +kernel
theorem dl_827 : decode code 827 = .ok (.iconst 3, 1) := by decide +kernel
theorem dl_828 : decode code 828 = .ok (.iadd, 1) := by decide +kernel
theorem dl_829 : decode code 829 = .ok (.iaload, 1) := by decide +kernel
theorem dl_830 : decode code 830 = .ok (.invokevirtual 90, 3) := by decide +kernel
theorem dl_833 : decode code 833 = .ok (.if_icmp .eq 536, 3) := by decide +kernel
theorem dl_836 : decode code 836 = .ok (.iconst 0, 1) := by decide +kernel
theorem dl_837 : decode code 837 = .ok (.ireturn, 1) := by decide +kernel
theorem dl_838 : decode code 838 = .ok (.aload_n 1, 1) := by decide +kernel
theorem dl_839 : decode code 839 = .ok (.aload_n 0, 1) := by decide +kernel
theorem dl_840 : decode code 840 = .ok (.iload_n 3, 1) := by decide +kernel
theorem dl_841 : decode code 841 = .ok (.iconst 1, 1) := by decide +kernel
theorem dl_842 : decode code 842 = .ok (.iadd, 1) := by decide +kernel
theorem dl_843 : decode code 843 = .ok (.iaload, 1) := by decide +kernel
theorem dl_844 : decode code 844 = .ok (.aload_n 0, 1) := by decide +kernel
theorem dl_845 : decode code 845 = .ok (.iload_n 3, 1) := by decide +kernel
theorem dl_846 : decode code 846 = .ok (.iconst 2, 1) := by decide +kernel
theorem dl_847 : decode code 847 = .ok (.iadd, 1) := by decide +kernel
theorem dl_848 : decode code 848 = .ok (.iaload, 1) := by decide +kernel
theorem dl_849 : decode code 849 = .ok (.aload_n 0, 1) := by decide +kernel
theorem dl_850 : decode code 850 = .ok (.iload_n 3, 1) := by decide +kernel
theorem dl_851 : decode code 851 = .ok (.iconst 3, 1) := by decide +kernel
theorem dl_852 : decode code 852 = .ok (.iadd, 1) := by decide +kernel
theorem dl_853 : decode code 853 = .ok (.iaload, 1) := by decide +kernel
theorem dl_854 : decode code 854 = .ok (.invokevirtual 91, 3) := by decide +kernel
theorem dl_857 : decode code 857 = .ok (.aload_n 2, 1) := by decide +kernel
theorem dl_858 : decode code 858 = .ok (.aload_n 0, 1) := by decide +kernel
theorem dl_859 : decode code 859 = .ok (.iload_n 3, 1) := by decide +kernel
theorem dl_860 : decode code 860 = .ok (.iconst 1, 1) := by decide +kernel
theorem dl_861 : decode code 861 = .ok (.iadd, 1) := by decide +kernel
theorem dl_862 : decode code 862 = .ok (.iaload, 1) := by decide +kernel
theorem dl_863 : decode code 863 = .ok (.aload_n 0, 1) := by decide +kernel
theorem dl_864 : decode code 864 = .ok (.iload_n 3, 1) := by decide +kernel
theorem dl_865 : decode code 865 = .ok (.iconst 2, 1) := by decide +kernel
theorem dl_866 : decode code 866 = .ok (.iadd, 1) := by decide +kernel
theorem dl_867 : decode code 867 = .ok (.iaload, 1) := by decide +kernel
theorem dl_868 : decode code 868 = .ok (.aload_n 0, 1) := by decide +kernel
theorem dl_869 : decode code 869 = .ok (.iload_n 3, 1) := by decide +kernel
theorem dl_870 : decode code 870 = .ok (.iconst 3, 1) := by decide +kernel
theorem dl_871 : decode code 871 = .ok (.iadd, 1) := by decide +kernel
theorem dl_872 : decode code 872 = .ok (.iaload, 1) := by decide +kernel
theorem dl_873 : decode code 873 = .ok (.invokevirtual 94, 3) := by decide +kernel
theorem dl_876 : decode code 876 = .ok (.if_icmp .eq 493, 3) := by decide +kernel
theorem dl_879 : decode code 879 = .ok (.iconst 0, 1) := by decide +kernel
theorem dl_880 : decode code 880 = .ok (.ireturn, 1) := by decide +kernel
theorem dl_881 : decode code 881 = .ok (.aload_n 1, 1) := by decide +kernel
theorem dl_882 : decode code 882 = .ok (.aload_n 0, 1) := by decide +kernel
theorem dl_883 : decode code 883 = .ok (.iload_n 3, 1) := by decide +kernel
theorem dl_884 : decode code 884 = .ok (.iconst 1, 1) := by decide +kernel
theorem dl_885 : decode code 885 = .ok (.iadd, 1) := by decide +kernel
theorem dl_886 : decode code 886 = .ok (.iaload, 1) := by decide +kernel
theorem dl_887 : decode code 887 = .ok (.aload_n 0, 1) := by decide +kernel
