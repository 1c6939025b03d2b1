theorem d_L_law_666 : decode code 666 = .ok (.iconst 2, 1) := by decide +kernel
theorem d_L_law_667 : decode code 667 = .ok (.iadd, 1) := by decide +kernel
theorem d_L_law_668 : decode code 668 = .ok (.iaload, 1) := by decide +kernel
theorem d_L_law_669 : decode code 669 = .ok (.invokevirtual 77, 3) := by decide +kernel
theorem d_L_law_672 : decode code 672 = .ok (.if_icmp .eq 856, 3) := by decide +kernel
theorem d_L_law_675 : decode code 675 = .ok (.iconst 0, 1) := by decide +kernel
theorem d_L_law_676 : decode code 676 = .ok (.ireturn, 1) := by decide +kernel
theorem d_L_law_677 : decode code 677 = .ok (.aload_n 1, 1) := by decide +kernel
theorem d_L_law_678 : decode code 678 = .ok (.aload_n 0, 1) := by decide +kernel
theorem d_L_law_679 : decode code 679 = .ok (.iload_n 3, 1) := by decide +kernel
theorem d_L_law_680 : decode code 680 = .ok (.iconst 1, 1) := by decide +kernel
theorem d_L_law_681 : decode code 681 = .ok (.iadd, 1) := by decide +kernel
theorem d_L_law_682 : decode code 682 = .ok (.iaload, 1) := by decide +kernel
theorem d_L_law_683 : decode code 683 = .ok (.invokevirtual 78, 3) := by decide +kernel
theorem d_L_law_686 : decode code 686 = .ok (.aload_n 2, 1) := by decide +kernel
theorem d_L_law_687 : decode code 687 = .ok (.aload_n 0, 1) := by decide +kernel
theorem d_L_law_688 : decode code 688 = .ok (.iload_n 3, 1) := by decide +kernel
theorem d_L_law_689 : decode code 689 = .ok (.iconst 1, 1) := by decide +kernel
theorem d_L_law_690 : decode code 690 = .ok (.iadd, 1) := by decide +kernel
theorem d_L_law_691 : decode code 691 = .ok (.iaload, 1) := by decide +kernel
theorem d_L_law_692 : decode code 692 = .ok (.invokevirtual 81, 3) := by decide +kernel
theorem d_L_law_695 : decode code 695 = .ok (.if_icmp .eq 833, 3) := by decide +kernel
theorem d_L_law_698 : decode code 698 = .ok (.iconst 0, 1) := by decide +kernel
theorem d_L_law_699 : decode code 699 = .ok (.ireturn, 1) := by decide +kernel
theorem d_L_law_700 : decode code 700 = .ok (.aload_n 1, 1) := by decide +kernel
theorem d_L_law_701 : decode code 701 = .ok (.aload_n 0, 1) := by decide +kernel
theorem d_L_law_702 : decode code 702 = .ok (.iload_n 3, 1) := by decide +kernel
theorem d_L_law_703 : decode code 703 = .ok (.iconst 1, 1) := by decide +kernel
theorem d_L_law_704 : decode code 704 = .ok (.iadd, 1) := by decide +kernel
theorem d_L_law_705 : decode code 705 = .ok (.iaload, 1) := by decide +kernel
theorem d_L_law_706 : decode code 706 = .ok (.aload_n 0, 1) := by decide +kernel
theorem d_L_law_707 : decode code 707 = .ok (.iload_n 3, 1) := by decide +kernel
theorem d_L_law_708 : decode code 708 = .ok (.iconst 2, 1) := by decide +kernel
theorem d_L_law_709 : decode code 709 = .ok (.iadd, 1) := by decide +kernel
theorem d_L_law_710 : decode code 710 = .ok (.iaload, 1) := by decide +kernel
theorem d_L_law_711 : decode code 711 = .ok (.aload_n 0, 1) := by decide +kernel
theorem d_L_law_712 : decode code 712 = .ok (.iload_n 3, 1) := by decide +kernel
theorem d_L_law_713 : decode code 713 = .ok (.iconst 3, 1) := by decide +kernel
theorem d_L_law_714 : decode code 714 = .ok (.iadd, 1) := by decide +kernel
theorem d_L_law_715 : decode code 715 = .ok (.iaload, 1) := by decide +kernel
theorem d_L_law_716 : decode code 716 = .ok (.invokevirtual 82, 3) := by decide +kernel
theorem d_L_law_719 : decode code 719 = .ok (.aload_n 2, 1) := by decide +kernel
theorem d_L_law_720 : decode code 720 = .ok (.aload_n 0, 1) := by decide +kernel
theorem d_L_law_721 : decode code 721 = .ok (.iload_n 3, 1) := by decide +kernel
theorem d_L_law_722 : decode code 722 = .ok (.iconst 1, 1) := by decide +kernel
theorem d_L_law_723 : decode code 723 = .ok (.iadd, 1) := by decide +kernel
theorem d_L_law_724 : decode code 724 = .ok (.iaload, 1) := by decide +kernel
theorem d_L_law_725 : decode code 725 = .ok (.aload_n 0, 1) := by decide +kernel
theorem d_L_law_726 : decode code 726 = .ok (.iload_n 3, 1) := by decide +kernel
theorem d_L_law_727 : decode code 727 = .ok (.iconst 2, 1) := by decide +kernel
theorem d_L_law_728 : decode code 728 = .ok (.iadd, 1) := by decide +kernel
theorem d_L_law_729 : decode code 729 = .ok (.iaload, 1) := by decide +kernel
theorem d_L_law_730 : decode code 730 = .ok (.aload_n 0, 1) := by decide +kernel
theorem d_L_law_731 : decode code 731 = .ok (.iload_n 3, 1) := by decide +kernel
theorem d_L_law_732 : decode code 732 = .ok (.iconst 3, 1) := by decide +kernel
theorem d_L_law_733 : decode code 733 = .ok (.iadd, 1) := by decide +kernel
theorem d_L_law_734 : decode code 734 = .ok (.iaload, 1) := by decide +kernel
theorem d_L_law_735 : decode code 735 = .ok (.invokevirtual 85, 3) := by decide +kernel
theorem d_L_law_738 : decode code 738 = .ok (.if_icmp .eq 790, 3) := by decide +kernel
theorem d_L_law_741 : decode code 741 = .ok (.iconst 0, 1) := by decide +kernel
theorem d_L_law_742 : decode code 742 = .ok (.ireturn, 1) := by decide +kernel
theorem d_L_law_743 : decode code 743 = .ok (.aload_n 1, 1) := by decide +kernel
theorem d_L_law_744 : decode code 744 = .ok (.aload_n 0, 1) := by decide +kernel
theorem d_L_law_745 : decode code 745 = .ok (.iload_n 3, 1) := by decide +kernel
theorem d_L_law_746 : decode code 746 = .ok (.iconst 1, 1) := by decide +kernel
theorem d_L_law_747 : decode code 747 = .ok (.iadd, 1) := by decide +kernel
theorem d_L_law_748 : decode code 748 = .ok (.iaload, 1) := by decide +kernel
theorem d_L_law_749 : decode code 749 = .ok (.aload_n 0, 1) := by decide +kernel
theorem d_L_law_750 : decode code 750 = .ok (.iload_n 3, 1) := by decide +kernel
theorem d_L_law_751 : decode code 751 = .ok (.iconst 2, 1) := by decide +kernel
theorem d_L_law_752 : decode code 752 = .ok (.iadd, 1) := by decide +kernel
theorem d_L_law_753 : decode code 753 = .ok (.iaload, 1) := by decide +kernel
theorem d_L_law_754 : decode code 754 = .ok (.invokevirtual 86, 3) := by decide +kernel
theorem d_L_law_757 : decode code 757 = .ok (.aload_n 2, 1) := by decide +kernel
theorem d_L_law_758 : decode code 758 = .ok (.aload_n 0, 1) := by decide +kernel
theorem d_L_law_759 : decode code 759 = .ok (.iload_n 3, 1) := by decide +kernel
theorem d_L_law_760 : decode code 760 = .ok (.iconst 1, 1) := by decide +kernel
theorem d_L_law_761 : decode code 761 = .ok (.iadd, 1) := by decide +kernel
theorem d_L_law_762 : decode code 762 = .ok (.iaload, 1) := by decide +kernel
theorem d_L_law_763 : decode code 763 = .ok (.aload_n 0, 1) := by decide +kernel
theorem d_L_law_764 : decode code 764 = .ok (.iload_n 3, 1) := by decide +kernel
theorem d_L_law_765 : decode code 765 = .ok (.iconst 2, 1) := by decide +kernel
theorem d_L_law_766 : decode code 766 = .ok (.iadd, 1) := by decide +kernel
theorem d_L_law_767 : decode code 767 = .ok (.iaload, 1) := by decide +kernel
theorem d_L_law_768 : decode code 768 = .ok (.invokevirtual 89, 3) := by decide +kernel
theorem d_L_law_771 : decode code 771 = .ok (.if_icmp .eq 757, 3) := by decide +kernel
theorem d_L_law_774 : decode code 774 = .ok (.iconst 0, 1) := by decide +kernel
theorem d_L_law_775 : decode code 775 = .ok (.ireturn, 1) := by decide +kernel
theorem d_L_law_776 : decode code 776 = .ok (.aload_n 1, 1) := by decide +kernel
theorem d_L_law_777 : decode code 777 = .ok (.aload_n 0, 1) := by decide +kernel
theorem d_L_law_778 : decode code 778 = .ok (.iload_n 3, 1) := by decide +kernel
theorem d_L_law_779 : decode code 779 = .ok (.iconst 1, 1) := by decide +kernel
theorem d_L_law_780 : decode code 780 = .ok (.iadd, 1) := by decide +kernel
theorem d_L_law_781 : decode code 781 = .ok (.iaload, 1) := by decide +kernel
theorem d_L_law_782 : decode code 782 = .ok (.aload_n 0, 1) := by decide +kernel
theorem d_L_law_783 : decode code 783 = .ok (.iload_n 3, 1) := by decide +kernel
theorem d_L_law_784 : decode code 784 = .ok (.iconst 2, 1) := by decide +kernel
theorem d_L_law_785 : decode code 785 = .ok (.iadd, 1) := by decide +kernel
theorem d_L_law_786 : decode code 786 = .ok (.iaload, 1) := by decide +kernel
theorem d_L_law_787 : decode code 787 = .ok (.aload_n 0, 1) := by decide +kernel
theorem d_L_law_788 : decode code 788 = .ok (.iload_n 3, 1) := by decide +kernel
theorem d_L_law_789 : decode code 789 = .ok (.iconst 3, 1) := by decide +kernel
theorem d_L_law_790 : decode code 790 = .ok (.iadd, 1) := by decide +kernel
theorem d_L_law_791 : decode code 791 = .ok (.iaload, 1) := by decide +kernel
theorem d_L_law_792 : decode code 792 = .ok (.invokevirtual 90, 3) := by decide +kernel
theorem d_L_law_795 : decode code 795 = .ok (.aload_n 2, 1) := by decide +kernel
theorem d_L_law_796 : decode code 796 = .ok (.aload_n 0, 1) := by decide +kernel
theorem d_L_law_797 : decode code 797 = .ok (.iload_n 3, 1) := by decide +kernel
theorem d_L_law_798 : decode code 798 = .ok (.iconst 1, 1) := by decide +kernel
theorem d_L_law_799 : decode code 799 = .ok (.iadd, 1) := by decide +kernel
theorem d_L_law_800 : decode code 800 = .ok (.iaload, 1) := by decide +kernel
theorem d_L_law_801 : decode code 801 = .ok (.aload_n 0, 1) := by decide +kernel
theorem d_L_law_802 : decode code 802 = .ok (.iload_n 3, 1) := by decide +kernel
theorem d_L_law_803 : decode code 803 = .ok (.iconst 2, 1) := by decide +kernel
theorem d_L_law_804 : decode code 804 = .ok (.iadd, 1) := by decide +kernel
theorem d_L_law_805 : decode code 805 = .ok (.iaload, 1) := by decide +kernel
theorem d_L_law_806 : decode code 806 = .ok (.aload_n 0, 1) := by decide +kernel
theorem d_L_law_807 : decode code 807 = .ok (.iload_n 3, 1) := by decide +kernel
theorem d_L_law_808 : decode code 808 = .ok (.iconst 3, 1) := by decide +kernel
theorem d_L_law_809 : decode code 809 = .ok (.iadd, 1) := by decide +kernel
theorem d_L_law_810 : decode code 810 = .ok (.iaload, 1) := by decide +kernel
theorem d_L_law_811 : decode code 811 = .ok (.invokevirtual 93, 3) := by decide +kernel
theorem d_L_law_814 : decode code 814 = .ok (.if_icmp .eq 714, 3) := by decide +kernel
theorem d_L_law_817 : decode code 817 = .ok (.iconst 0, 1) := by decide +kernel
theorem d_L_law_818 : decode code 818 = .ok (.ireturn, 1) := by decide +kernel
theorem d_L_law_819 : decode code 819 = .ok (.aload_n 1, 1) := by decide +kernel
theorem d_L_law_820 : decode code 820 = .ok (.aload_n 0, 1) := by decide +kernel
theorem d_L_law_821 : decode code 821 = .ok (.iload_n 3, 1) := by decide +kernel
theorem d_L_law_822 : decode code 822 = .ok (.iconst 1, 1) := by decide +kernel
theorem d_L_law_823 : decode code 823 = .ok (.iadd, 1) := by decide +kernel
theorem d_L_law_824 : decode code 824 = .ok (.iaload, 1) := by decide +kernel
theorem d_L_law_825 : decode code 825 = .ok (.aload_n 0, 1) := by decide +kernel
theorem d_L_law_826 : decode code 826 = .ok (.iload_n 3, 1) := by decide +kernel
theorem d_L_law_827 : decode code 827 = .ok (.iconst 2, 1) := by decide +kernel
theorem d_L_law_828 : decode code 828 = .ok (.iadd, 1) := by decide +kernel
theorem d_L_law_829 : decode code 829 = .ok (.iaload, 1) := by decide +kernel
theorem d_L_law_830 : decode code 830 = .ok (.invokevirtual 94, 3) := by decide +kernel
theorem d_L_law_833 : decode code 833 = .ok (.aload_n 2, 1) := by decide +kernel
theorem d_L_law_834 : decode code 834 = .ok (.aload_n 0, 1) := by decide +kernel
theorem d_L_law_835 : decode code 835 = .ok (.iload_n 3, 1) := by decide +kernel
theorem d_L_law_836 : decode code 836 = .ok (.iconst 1, 1) := by decide +kernel
theorem d_L_law_837 : decode code 837 = .ok (.iadd, 1) := by decide +kernel
theorem d_L_law_838 : decode code 838 = .ok (.iaload, 1) := by decide +kernel
theorem d_L_law_839 : decode code 839 = .ok (.aload_n 0, 1) := by decide +kernel
theorem d_L_law_840 : decode code 840 = .ok (.iload_n 3, 1) := by decide +kernel
theorem d_L_law_841 : decode code 841 = .ok (.iconst 2, 1) := by decide +kernel
theorem d_L_law_842 : decode code 842 = .ok (.iadd, 1) := by decide +kernel
theorem d_L_law_843 : decode code 843 = .ok (.iaload, 1) := by decide +kernel
theorem d_L_law_844 : decode code 844 = .ok (.invokevirtual 97, 3) := by decide +kernel
theorem d_L_law_847 : decode code 847 = .ok (.if_icmp .eq 681, 3) := by decide +kernel
theorem d_L_law_850 : decode code 850 = .ok (.iconst 0, 1) := by decide +kernel
theorem d_L_law_851 : decode code 851 = .ok (.ireturn, 1) := by decide +kernel
theorem d_L_law_852 : decode code 852 = .ok (.aload_n 1, 1) := by decide +kernel
theorem d_L_law_853 : decode code 853 = .ok (.aload_n 0, 1) := by decide +kernel
theorem d_L_law_854 : decode code 854 = .ok (.iload_n 3, 1) := by decide +kernel
theorem d_L_law_855 : decode code 855 = .ok (.iconst 1, 1) := by decide +kernel
theorem d_L_law_856 : decode code 856 = .ok (.iadd, 1) := by decide +kernel
theorem d_L_law_857 : decode code 857 = .ok (.iaload, 1) := by decide +kernel
theorem d_L_law_858 : decode code 858 = .ok (.aload_n 0, 1) := by decide +kernel
theorem d_L_law_859 : decode code 859 = .ok (.iload_n 3, 1) := by decide +kernel
theorem d_L_law_860 : decode code 860 = .ok (.iconst 2, 1) := by decide +kernel
theorem d_L_law_861 : decode code 861 = .ok (.iadd, 1) := by decide +kernel
theorem d_L_law_862 : decode code 862 = .ok (.iaload, 1) := by decide +kernel
theorem d_L_law_863 : decode code 863 = .ok (.aload_n 0, 1) := by decide +kernel
theorem d_L_law_864 : decode code 864 = .ok (.iload_n 3, 1) := by decide +kernel
theorem d_L_law_865 : decode code 865 = .ok (.iconst 3, 1) := by decide +kernel
theorem d_L_law_866 : decode code 866 = .ok (.iadd, 1) := by decide +kernel
theorem d_L_law_867 : decode code 867 = .ok (.iaload, 1) := by decide +kernel
theorem d_L_law_868 : decode code 868 = .ok (.invokevirtual 98, 3) := by decide +kernel
theorem d_L_law_871 : decode code 871 = .ok (.aload_n 2, 1) := by decide +kernel
theorem d_L_law_872 : decode code 872 = .ok (.aload_n 0, 1) := by decide +kernel
theorem d_L_law_873 : decode code 873 = .ok (.iload_n 3, 1) := by decide +kernel
theorem d_L_law_874 : decode code 874 = .ok (.iconst 1, 1) := by decide +kernel
theorem d_L_law_875 : decode code 875 = .ok (.iadd, 1) := by decide +kernel
theorem d_L_law_876 : decode code 876 = .ok (.iaload, 1) := by decide +kernel
theorem d_L_law_877 : decode code 877 = .ok (.aload_n 0, 1) := by decide +kernel
theorem d_L_law_878 : decode code 878 = .ok (.iload_n 3, 1) := by decide +kernel
theorem d_L_law_879 : decode code 879 = .ok (.iconst 2, 1) := by decide +kernel
theorem d_L_law_880 : decode code 880 = .ok (.iadd, 1) := by decide +kernel
theorem d_L_law_881 : decode code 881 = .ok (.iaload, 1) := by decide +kernel
theorem d_L_law_882 : decode code 882 = .ok (.aload_n 0, 1) := by decide +kernel
theorem d_L_law_883 : decode code 883 = .ok (.iload_n 3, 1) := by decide +kernel
theorem d_L_law_884 : decode code 884 = .ok (.iconst 3, 1) := by decide +kernel
theorem d_L_law_885 : decode code 885 = .ok (.iadd, 1) := by decide +kernel
theorem d_L_law_886 : decode code 886 = .ok (.iaload, 1) := by decide +kernel
theorem d_L_law_887 : decode code 887 = .ok (.invokevirtual 101, 3) := by decide +kernel
theorem d_L_law_890 : decode code 890 = .ok (.if_icmp .eq 638, 3) := by decide +kernel
theorem d_L_law_893 : decode code 893 = .ok (.iconst 0, 1) := by decide +kernel
theorem d_L_law_894 : decode code 894 = .ok (.ireturn, 1) := by decide +kernel
theorem d_L_law_895 : decode code 895 = .ok (.aload_n 1, 1) := by decide +kernel
theorem d_L_law_896 : decode code 896 = .ok (.aload_n 0, 1) := by decide +kernel
theorem d_L_law_897 : decode code 897 = .ok (.iload_n 3, 1) := by decide +kernel
theorem d_L_law_898 : decode code 898 = .ok (.iconst 1, 1) := by decide +kernel
theorem d_L_law_899 : decode code 899 = .ok (.iadd, 1) := by decide +kernel
theorem d_L_law_900 : decode code 900 = .ok (.iaload, 1) := by decide +kernel
theorem d_L_law_901 : decode code 901 = .ok (.invokevirtual 102, 3) := by decide +kernel
theorem d_L_law_904 : decode code 904 = .ok (.aload_n 2, 1) := by decide +kernel
theorem d_L_law_905 : decode code 905 = .ok (.aload_n 0, 1) := by decide +kernel
theorem d_L_law_906 : decode code 906 = .ok (.iload_n 3, 1) := by decide +kernel
theorem d_L_law_907 : decode code 907 = .ok (.iconst 1, 1) := by decide +kernel
