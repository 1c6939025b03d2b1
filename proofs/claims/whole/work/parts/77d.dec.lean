theorem d_X6_init_572 : decode prog_8_method_1_code 572 = .ok (.iastore, 1) := by decide +kernel
theorem d_X6_init_573 : decode prog_8_method_1_code 573 = .ok (.dup, 1) := by decide +kernel
theorem d_X6_init_574 : decode prog_8_method_1_code 574 = .ok (.bipush 16, 2) := by decide +kernel
theorem d_X6_init_576 : decode prog_8_method_1_code 576 = .ok (.bipush 99, 2) := by decide +kernel
theorem d_X6_init_578 : decode prog_8_method_1_code 578 = .ok (.iastore, 1) := by decide +kernel
theorem d_X6_init_579 : decode prog_8_method_1_code 579 = .ok (.dup, 1) := by decide +kernel
theorem d_X6_init_580 : decode prog_8_method_1_code 580 = .ok (.bipush 17, 2) := by decide +kernel
theorem d_X6_init_582 : decode prog_8_method_1_code 582 = .ok (.bipush 104, 2) := by decide +kernel
theorem d_X6_init_584 : decode prog_8_method_1_code 584 = .ok (.iastore, 1) := by decide +kernel
theorem d_X6_init_585 : decode prog_8_method_1_code 585 = .ok (.dup, 1) := by decide +kernel
theorem d_X6_init_586 : decode prog_8_method_1_code 586 = .ok (.bipush 18, 2) := by decide +kernel
theorem d_X6_init_588 : decode prog_8_method_1_code 588 = .ok (.bipush 105, 2) := by decide +kernel
theorem d_X6_init_590 : decode prog_8_method_1_code 590 = .ok (.iastore, 1) := by decide +kernel
theorem d_X6_init_591 : decode prog_8_method_1_code 591 = .ok (.dup, 1) := by decide +kernel
theorem d_X6_init_592 : decode prog_8_method_1_code 592 = .ok (.bipush 19, 2) := by decide +kernel
theorem d_X6_init_594 : decode prog_8_method_1_code 594 = .ok (.bipush 108, 2) := by decide +kernel
theorem d_X6_init_596 : decode prog_8_method_1_code 596 = .ok (.iastore, 1) := by decide +kernel
theorem d_X6_init_597 : decode prog_8_method_1_code 597 = .ok (.dup, 1) := by decide +kernel
theorem d_X6_init_598 : decode prog_8_method_1_code 598 = .ok (.bipush 20, 2) := by decide +kernel
theorem d_X6_init_600 : decode prog_8_method_1_code 600 = .ok (.bipush 108, 2) := by decide +kernel
theorem d_X6_init_602 : decode prog_8_method_1_code 602 = .ok (.iastore, 1) := by decide +kernel
theorem d_X6_init_603 : decode prog_8_method_1_code 603 = .ok (.dup, 1) := by decide +kernel
theorem d_X6_init_604 : decode prog_8_method_1_code 604 = .ok (.bipush 21, 2) := by decide +kernel
theorem d_X6_init_606 : decode prog_8_method_1_code 606 = .ok (.bipush 115, 2) := by decide +kernel
theorem d_X6_init_608 : decode prog_8_method_1_code 608 = .ok (.iastore, 1) := by decide +kernel
theorem d_X6_init_609 : decode prog_8_method_1_code 609 = .ok (.dup, 1) := by decide +kernel
theorem d_X6_init_610 : decode prog_8_method_1_code 610 = .ok (.bipush 22, 2) := by decide +kernel
theorem d_X6_init_612 : decode prog_8_method_1_code 612 = .ok (.bipush 32, 2) := by decide +kernel
theorem d_X6_init_614 : decode prog_8_method_1_code 614 = .ok (.iastore, 1) := by decide +kernel
theorem d_X6_init_615 : decode prog_8_method_1_code 615 = .ok (.dup, 1) := by decide +kernel
theorem d_X6_init_616 : decode prog_8_method_1_code 616 = .ok (.bipush 23, 2) := by decide +kernel
theorem d_X6_init_618 : decode prog_8_method_1_code 618 = .ok (.bipush 32, 2) := by decide +kernel
theorem d_X6_init_620 : decode prog_8_method_1_code 620 = .ok (.iastore, 1) := by decide +kernel
theorem d_X6_init_621 : decode prog_8_method_1_code 621 = .ok (.dup, 1) := by decide +kernel
theorem d_X6_init_622 : decode prog_8_method_1_code 622 = .ok (.bipush 24, 2) := by decide +kernel
theorem d_X6_init_624 : decode prog_8_method_1_code 624 = .ok (.bipush 119, 2) := by decide +kernel
theorem d_X6_init_626 : decode prog_8_method_1_code 626 = .ok (.iastore, 1) := by decide +kernel
theorem d_X6_init_627 : decode prog_8_method_1_code 627 = .ok (.dup, 1) := by decide +kernel
theorem d_X6_init_628 : decode prog_8_method_1_code 628 = .ok (.bipush 25, 2) := by decide +kernel
theorem d_X6_init_630 : decode prog_8_method_1_code 630 = .ok (.bipush 101, 2) := by decide +kernel
theorem d_X6_init_632 : decode prog_8_method_1_code 632 = .ok (.iastore, 1) := by decide +kernel
theorem d_X6_init_633 : decode prog_8_method_1_code 633 = .ok (.dup, 1) := by decide +kernel
theorem d_X6_init_634 : decode prog_8_method_1_code 634 = .ok (.bipush 26, 2) := by decide +kernel
theorem d_X6_init_636 : decode prog_8_method_1_code 636 = .ok (.bipush 105, 2) := by decide +kernel
theorem d_X6_init_638 : decode prog_8_method_1_code 638 = .ok (.iastore, 1) := by decide +kernel
theorem d_X6_init_639 : decode prog_8_method_1_code 639 = .ok (.dup, 1) := by decide +kernel
theorem d_X6_init_640 : decode prog_8_method_1_code 640 = .ok (.bipush 27, 2) := by decide +kernel
theorem d_X6_init_642 : decode prog_8_method_1_code 642 = .ok (.bipush 103, 2) := by decide +kernel
theorem d_X6_init_644 : decode prog_8_method_1_code 644 = .ok (.iastore, 1) := by decide +kernel
theorem d_X6_init_645 : decode prog_8_method_1_code 645 = .ok (.dup, 1) := by decide +kernel
theorem d_X6_init_646 : decode prog_8_method_1_code 646 = .ok (.bipush 28, 2) := by decide +kernel
theorem d_X6_init_648 : decode prog_8_method_1_code 648 = .ok (.bipush 104, 2) := by decide +kernel
theorem d_X6_init_650 : decode prog_8_method_1_code 650 = .ok (.iastore, 1) := by decide +kernel
theorem d_X6_init_651 : decode prog_8_method_1_code 651 = .ok (.dup, 1) := by decide +kernel
theorem d_X6_init_652 : decode prog_8_method_1_code 652 = .ok (.bipush 29, 2) := by decide +kernel
theorem d_X6_init_654 : decode prog_8_method_1_code 654 = .ok (.bipush 116, 2) := by decide +kernel
theorem d_X6_init_656 : decode prog_8_method_1_code 656 = .ok (.iastore, 1) := by decide +kernel
theorem d_X6_init_657 : decode prog_8_method_1_code 657 = .ok (.dup, 1) := by decide +kernel
theorem d_X6_init_658 : decode prog_8_method_1_code 658 = .ok (.bipush 30, 2) := by decide +kernel
theorem d_X6_init_660 : decode prog_8_method_1_code 660 = .ok (.bipush 32, 2) := by decide +kernel
theorem d_X6_init_662 : decode prog_8_method_1_code 662 = .ok (.iastore, 1) := by decide +kernel
theorem d_X6_init_663 : decode prog_8_method_1_code 663 = .ok (.dup, 1) := by decide +kernel
theorem d_X6_init_664 : decode prog_8_method_1_code 664 = .ok (.bipush 31, 2) := by decide +kernel
theorem d_X6_init_666 : decode prog_8_method_1_code 666 = .ok (.bipush 32, 2) := by decide +kernel
theorem d_X6_init_668 : decode prog_8_method_1_code 668 = .ok (.iastore, 1) := by decide +kernel
theorem d_X6_init_669 : decode prog_8_method_1_code 669 = .ok (.dup, 1) := by decide +kernel
theorem d_X6_init_670 : decode prog_8_method_1_code 670 = .ok (.bipush 32, 2) := by decide +kernel
theorem d_X6_init_672 : decode prog_8_method_1_code 672 = .ok (.bipush 105, 2) := by decide +kernel
theorem d_X6_init_674 : decode prog_8_method_1_code 674 = .ok (.iastore, 1) := by decide +kernel
theorem d_X6_init_675 : decode prog_8_method_1_code 675 = .ok (.dup, 1) := by decide +kernel
theorem d_X6_init_676 : decode prog_8_method_1_code 676 = .ok (.bipush 33, 2) := by decide +kernel
theorem d_X6_init_678 : decode prog_8_method_1_code 678 = .ok (.bipush 99, 2) := by decide +kernel
theorem d_X6_init_680 : decode prog_8_method_1_code 680 = .ok (.iastore, 1) := by decide +kernel
theorem d_X6_init_681 : decode prog_8_method_1_code 681 = .ok (.dup, 1) := by decide +kernel
theorem d_X6_init_682 : decode prog_8_method_1_code 682 = .ok (.bipush 34, 2) := by decide +kernel
theorem d_X6_init_684 : decode prog_8_method_1_code 684 = .ok (.bipush 101, 2) := by decide +kernel
theorem d_X6_init_686 : decode prog_8_method_1_code 686 = .ok (.iastore, 1) := by decide +kernel
theorem d_X6_init_687 : decode prog_8_method_1_code 687 = .ok (.dup, 1) := by decide +kernel
theorem d_X6_init_688 : decode prog_8_method_1_code 688 = .ok (.bipush 35, 2) := by decide +kernel
theorem d_X6_init_690 : decode prog_8_method_1_code 690 = .ok (.bipush 32, 2) := by decide +kernel
theorem d_X6_init_692 : decode prog_8_method_1_code 692 = .ok (.iastore, 1) := by decide +kernel
theorem d_X6_init_693 : decode prog_8_method_1_code 693 = .ok (.dup, 1) := by decide +kernel
theorem d_X6_init_694 : decode prog_8_method_1_code 694 = .ok (.bipush 36, 2) := by decide +kernel
theorem d_X6_init_696 : decode prog_8_method_1_code 696 = .ok (.bipush 32, 2) := by decide +kernel
theorem d_X6_init_698 : decode prog_8_method_1_code 698 = .ok (.iastore, 1) := by decide +kernel
theorem d_X6_init_699 : decode prog_8_method_1_code 699 = .ok (.dup, 1) := by decide +kernel
theorem d_X6_init_700 : decode prog_8_method_1_code 700 = .ok (.bipush 37, 2) := by decide +kernel
theorem d_X6_init_702 : decode prog_8_method_1_code 702 = .ok (.bipush 32, 2) := by decide +kernel
theorem d_X6_init_704 : decode prog_8_method_1_code 704 = .ok (.iastore, 1) := by decide +kernel
theorem d_X6_init_705 : decode prog_8_method_1_code 705 = .ok (.dup, 1) := by decide +kernel
theorem d_X6_init_706 : decode prog_8_method_1_code 706 = .ok (.bipush 38, 2) := by decide +kernel
theorem d_X6_init_708 : decode prog_8_method_1_code 708 = .ok (.bipush 32, 2) := by decide +kernel
theorem d_X6_init_710 : decode prog_8_method_1_code 710 = .ok (.iastore, 1) := by decide +kernel
theorem d_X6_init_711 : decode prog_8_method_1_code 711 = .ok (.dup, 1) := by decide +kernel
theorem d_X6_init_712 : decode prog_8_method_1_code 712 = .ok (.bipush 39, 2) := by decide +kernel
theorem d_X6_init_714 : decode prog_8_method_1_code 714 = .ok (.bipush 32, 2) := by decide +kernel
theorem d_X6_init_716 : decode prog_8_method_1_code 716 = .ok (.iastore, 1) := by decide +kernel
theorem d_X6_init_717 : decode prog_8_method_1_code 717 = .ok (.dup, 1) := by decide +kernel
theorem d_X6_init_718 : decode prog_8_method_1_code 718 = .ok (.bipush 40, 2) := by decide +kernel
theorem d_X6_init_720 : decode prog_8_method_1_code 720 = .ok (.bipush 99, 2) := by decide +kernel
theorem d_X6_init_722 : decode prog_8_method_1_code 722 = .ok (.iastore, 1) := by decide +kernel
theorem d_X6_init_723 : decode prog_8_method_1_code 723 = .ok (.dup, 1) := by decide +kernel
theorem d_X6_init_724 : decode prog_8_method_1_code 724 = .ok (.bipush 41, 2) := by decide +kernel
theorem d_X6_init_726 : decode prog_8_method_1_code 726 = .ok (.bipush 111, 2) := by decide +kernel
theorem d_X6_init_728 : decode prog_8_method_1_code 728 = .ok (.iastore, 1) := by decide +kernel
theorem d_X6_init_729 : decode prog_8_method_1_code 729 = .ok (.dup, 1) := by decide +kernel
theorem d_X6_init_730 : decode prog_8_method_1_code 730 = .ok (.bipush 42, 2) := by decide +kernel
theorem d_X6_init_732 : decode prog_8_method_1_code 732 = .ok (.bipush 108, 2) := by decide +kernel
theorem d_X6_init_734 : decode prog_8_method_1_code 734 = .ok (.iastore, 1) := by decide +kernel
theorem d_X6_init_735 : decode prog_8_method_1_code 735 = .ok (.dup, 1) := by decide +kernel
theorem d_X6_init_736 : decode prog_8_method_1_code 736 = .ok (.bipush 43, 2) := by decide +kernel
theorem d_X6_init_738 : decode prog_8_method_1_code 738 = .ok (.bipush 100, 2) := by decide +kernel
theorem d_X6_init_740 : decode prog_8_method_1_code 740 = .ok (.iastore, 1) := by decide +kernel
theorem d_X6_init_741 : decode prog_8_method_1_code 741 = .ok (.dup, 1) := by decide +kernel
theorem d_X6_init_742 : decode prog_8_method_1_code 742 = .ok (.bipush 44, 2) := by decide +kernel
theorem d_X6_init_744 : decode prog_8_method_1_code 744 = .ok (.bipush 32, 2) := by decide +kernel
theorem d_X6_init_746 : decode prog_8_method_1_code 746 = .ok (.iastore, 1) := by decide +kernel
theorem d_X6_init_747 : decode prog_8_method_1_code 747 = .ok (.dup, 1) := by decide +kernel
theorem d_X6_init_748 : decode prog_8_method_1_code 748 = .ok (.bipush 45, 2) := by decide +kernel
theorem d_X6_init_750 : decode prog_8_method_1_code 750 = .ok (.bipush 32, 2) := by decide +kernel
theorem d_X6_init_752 : decode prog_8_method_1_code 752 = .ok (.iastore, 1) := by decide +kernel
theorem d_X6_init_753 : decode prog_8_method_1_code 753 = .ok (.dup, 1) := by decide +kernel
theorem d_X6_init_754 : decode prog_8_method_1_code 754 = .ok (.bipush 46, 2) := by decide +kernel
theorem d_X6_init_756 : decode prog_8_method_1_code 756 = .ok (.bipush 32, 2) := by decide +kernel
theorem d_X6_init_758 : decode prog_8_method_1_code 758 = .ok (.iastore, 1) := by decide +kernel
theorem d_X6_init_759 : decode prog_8_method_1_code 759 = .ok (.dup, 1) := by decide +kernel
theorem d_X6_init_760 : decode prog_8_method_1_code 760 = .ok (.bipush 47, 2) := by decide +kernel
theorem d_X6_init_762 : decode prog_8_method_1_code 762 = .ok (.bipush 32, 2) := by decide +kernel
theorem d_X6_init_764 : decode prog_8_method_1_code 764 = .ok (.iastore, 1) := by decide +kernel
theorem d_X6_init_765 : decode prog_8_method_1_code 765 = .ok (.dup, 1) := by decide +kernel
theorem d_X6_init_766 : decode prog_8_method_1_code 766 = .ok (.bipush 48, 2) := by decide +kernel
theorem d_X6_init_768 : decode prog_8_method_1_code 768 = .ok (.bipush 109, 2) := by decide +kernel
theorem d_X6_init_770 : decode prog_8_method_1_code 770 = .ok (.iastore, 1) := by decide +kernel
theorem d_X6_init_771 : decode prog_8_method_1_code 771 = .ok (.dup, 1) := by decide +kernel
theorem d_X6_init_772 : decode prog_8_method_1_code 772 = .ok (.bipush 49, 2) := by decide +kernel
theorem d_X6_init_774 : decode prog_8_method_1_code 774 = .ok (.bipush 111, 2) := by decide +kernel
theorem d_X6_init_776 : decode prog_8_method_1_code 776 = .ok (.iastore, 1) := by decide +kernel
theorem d_X6_init_777 : decode prog_8_method_1_code 777 = .ok (.dup, 1) := by decide +kernel
theorem d_X6_init_778 : decode prog_8_method_1_code 778 = .ok (.bipush 50, 2) := by decide +kernel
theorem d_X6_init_780 : decode prog_8_method_1_code 780 = .ok (.bipush 111, 2) := by decide +kernel
theorem d_X6_init_782 : decode prog_8_method_1_code 782 = .ok (.iastore, 1) := by decide +kernel
theorem d_X6_init_783 : decode prog_8_method_1_code 783 = .ok (.dup, 1) := by decide +kernel
theorem d_X6_init_784 : decode prog_8_method_1_code 784 = .ok (.bipush 51, 2) := by decide +kernel
theorem d_X6_init_786 : decode prog_8_method_1_code 786 = .ok (.bipush 100, 2) := by decide +kernel
theorem d_X6_init_788 : decode prog_8_method_1_code 788 = .ok (.iastore, 1) := by decide +kernel
theorem d_X6_init_789 : decode prog_8_method_1_code 789 = .ok (.dup, 1) := by decide +kernel
theorem d_X6_init_790 : decode prog_8_method_1_code 790 = .ok (.bipush 52, 2) := by decide +kernel
theorem d_X6_init_792 : decode prog_8_method_1_code 792 = .ok (.bipush 32, 2) := by decide +kernel
theorem d_X6_init_794 : decode prog_8_method_1_code 794 = .ok (.iastore, 1) := by decide +kernel
theorem d_X6_init_795 : decode prog_8_method_1_code 795 = .ok (.dup, 1) := by decide +kernel
theorem d_X6_init_796 : decode prog_8_method_1_code 796 = .ok (.bipush 53, 2) := by decide +kernel
theorem d_X6_init_798 : decode prog_8_method_1_code 798 = .ok (.bipush 32, 2) := by decide +kernel
theorem d_X6_init_800 : decode prog_8_method_1_code 800 = .ok (.iastore, 1) := by decide +kernel
theorem d_X6_init_801 : decode prog_8_method_1_code 801 = .ok (.dup, 1) := by decide +kernel
theorem d_X6_init_802 : decode prog_8_method_1_code 802 = .ok (.bipush 54, 2) := by decide +kernel
theorem d_X6_init_804 : decode prog_8_method_1_code 804 = .ok (.bipush 32, 2) := by decide +kernel
theorem d_X6_init_806 : decode prog_8_method_1_code 806 = .ok (.iastore, 1) := by decide +kernel
theorem d_X6_init_807 : decode prog_8_method_1_code 807 = .ok (.dup, 1) := by decide +kernel
theorem d_X6_init_808 : decode prog_8_method_1_code 808 = .ok (.bipush 55, 2) := by decide +kernel
theorem d_X6_init_810 : decode prog_8_method_1_code 810 = .ok (.bipush 32, 2) := by decide +kernel
theorem d_X6_init_812 : decode prog_8_method_1_code 812 = .ok (.iastore, 1) := by decide +kernel
theorem d_X6_init_813 : decode prog_8_method_1_code 813 = .ok (.dup, 1) := by decide +kernel
theorem d_X6_init_814 : decode prog_8_method_1_code 814 = .ok (.bipush 56, 2) := by decide +kernel
theorem d_X6_init_816 : decode prog_8_method_1_code 816 = .ok (.bipush 100, 2) := by decide +kernel
theorem d_X6_init_818 : decode prog_8_method_1_code 818 = .ok (.iastore, 1) := by decide +kernel
theorem d_X6_init_819 : decode prog_8_method_1_code 819 = .ok (.dup, 1) := by decide +kernel
theorem d_X6_init_820 : decode prog_8_method_1_code 820 = .ok (.bipush 57, 2) := by decide +kernel
theorem d_X6_init_822 : decode prog_8_method_1_code 822 = .ok (.bipush 97, 2) := by decide +kernel
theorem d_X6_init_824 : decode prog_8_method_1_code 824 = .ok (.iastore, 1) := by decide +kernel
theorem d_X6_init_825 : decode prog_8_method_1_code 825 = .ok (.dup, 1) := by decide +kernel
theorem d_X6_init_826 : decode prog_8_method_1_code 826 = .ok (.bipush 58, 2) := by decide +kernel
theorem d_X6_init_828 : decode prog_8_method_1_code 828 = .ok (.bipush 121, 2) := by decide +kernel
theorem d_X6_init_830 : decode prog_8_method_1_code 830 = .ok (.iastore, 1) := by decide +kernel
theorem d_X6_init_831 : decode prog_8_method_1_code 831 = .ok (.dup, 1) := by decide +kernel
theorem d_X6_init_832 : decode prog_8_method_1_code 832 = .ok (.bipush 59, 2) := by decide +kernel
theorem d_X6_init_834 : decode prog_8_method_1_code 834 = .ok (.bipush 32, 2) := by decide +kernel
theorem d_X6_init_836 : decode prog_8_method_1_code 836 = .ok (.iastore, 1) := by decide +kernel
theorem d_X6_init_837 : decode prog_8_method_1_code 837 = .ok (.dup, 1) := by decide +kernel
theorem d_X6_init_838 : decode prog_8_method_1_code 838 = .ok (.bipush 60, 2) := by decide +kernel
theorem d_X6_init_840 : decode prog_8_method_1_code 840 = .ok (.bipush 32, 2) := by decide +kernel
theorem d_X6_init_842 : decode prog_8_method_1_code 842 = .ok (.iastore, 1) := by decide +kernel
theorem d_X6_init_843 : decode prog_8_method_1_code 843 = .ok (.dup, 1) := by decide +kernel
theorem d_X6_init_844 : decode prog_8_method_1_code 844 = .ok (.bipush 61, 2) := by decide +kernel
theorem d_X6_init_846 : decode prog_8_method_1_code 846 = .ok (.bipush 32, 2) := by decide +kernel
theorem d_X6_init_848 : decode prog_8_method_1_code 848 = .ok (.iastore, 1) := by decide +kernel
theorem d_X6_init_849 : decode prog_8_method_1_code 849 = .ok (.dup, 1) := by decide +kernel
theorem d_X6_init_850 : decode prog_8_method_1_code 850 = .ok (.bipush 62, 2) := by decide +kernel
theorem d_X6_init_852 : decode prog_8_method_1_code 852 = .ok (.bipush 32, 2) := by decide +kernel
theorem d_X6_init_854 : decode prog_8_method_1_code 854 = .ok (.iastore, 1) := by decide +kernel
theorem d_X6_init_855 : decode prog_8_method_1_code 855 = .ok (.dup, 1) := by decide +kernel
theorem d_X6_init_856 : decode prog_8_method_1_code 856 = .ok (.bipush 63, 2) := by decide +kernel
theorem d_X6_init_858 : decode prog_8_method_1_code 858 = .ok (.bipush 32, 2) := by decide +kernel
theorem d_X6_init_860 : decode prog_8_method_1_code 860 = .ok (.iastore, 1) := by decide +kernel
theorem d_X6_init_861 : decode prog_8_method_1_code 861 = .ok (.dup, 1) := by decide +kernel
theorem d_X6_init_862 : decode prog_8_method_1_code 862 = .ok (.bipush 64, 2) := by decide +kernel
theorem d_X6_init_864 : decode prog_8_method_1_code 864 = .ok (.bipush 109, 2) := by decide +kernel
theorem d_X6_init_866 : decode prog_8_method_1_code 866 = .ok (.iastore, 1) := by decide +kernel
theorem d_X6_init_867 : decode prog_8_method_1_code 867 = .ok (.dup, 1) := by decide +kernel
theorem d_X6_init_868 : decode prog_8_method_1_code 868 = .ok (.bipush 65, 2) := by decide +kernel
theorem d_X6_init_870 : decode prog_8_method_1_code 870 = .ok (.bipush 111, 2) := by decide +kernel
