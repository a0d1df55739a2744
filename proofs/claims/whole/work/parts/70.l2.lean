theorem d_La_law_651 : decode code 651 = .ok (.iadd, 1) := by decide +kernel
theorem d_La_law_652 : decode code 652 = .ok (.iaload, 1) := by decide +kernel
theorem d_La_law_653 : decode code 653 = .ok (.invokevirtual 110, 3) := by decide +kernel
theorem d_La_law_656 : decode code 656 = .ok (.istore 6, 2) := by decide +kernel
theorem d_La_law_658 : decode code 658 = .ok (.aload_n 2, 1) := by decide +kernel
theorem d_La_law_659 : decode code 659 = .ok (.invokevirtual 79, 3) := by decide +kernel
theorem d_La_law_662 : decode code 662 = .ok (.iload 5, 2) := by decide +kernel
theorem d_La_law_664 : decode code 664 = .ok (.if_icmp .eq 5, 3) := by decide +kernel
theorem d_La_law_667 : decode code 667 = .ok (.iconst 0, 1) := by decide +kernel
theorem d_La_law_668 : decode code 668 = .ok (.ireturn, 1) := by decide +kernel
theorem d_La_law_669 : decode code 669 = .ok (.iload 5, 2) := by decide +kernel
theorem d_La_law_671 : decode code 671 = .ok (.ifCond .ne 15, 3) := by decide +kernel
theorem d_La_law_674 : decode code 674 = .ok (.aload_n 3, 1) := by decide +kernel
theorem d_La_law_675 : decode code 675 = .ok (.iconst 0, 1) := by decide +kernel
theorem d_La_law_676 : decode code 676 = .ok (.laload, 1) := by decide +kernel
theorem d_La_law_677 : decode code 677 = .ok (.iload 6, 2) := by decide +kernel
theorem d_La_law_679 : decode code 679 = .ok (.i2l, 1) := by decide +kernel
theorem d_La_law_680 : decode code 680 = .ok (.lcmp, 1) := by decide +kernel
theorem d_La_law_681 : decode code 681 = .ok (.ifCond .eq 5, 3) := by decide +kernel
theorem d_La_law_684 : decode code 684 = .ok (.iconst 0, 1) := by decide +kernel
theorem d_La_law_685 : decode code 685 = .ok (.ireturn, 1) := by decide +kernel
theorem d_La_law_686 : decode code 686 = .ok (.goto 503, 3) := by decide +kernel
theorem d_La_law_689 : decode code 689 = .ok (.aload_n 1, 1) := by decide +kernel
theorem d_La_law_690 : decode code 690 = .ok (.aload_n 0, 1) := by decide +kernel
theorem d_La_law_691 : decode code 691 = .ok (.iload 4, 2) := by decide +kernel
theorem d_La_law_693 : decode code 693 = .ok (.iconst 1, 1) := by decide +kernel
theorem d_La_law_694 : decode code 694 = .ok (.iadd, 1) := by decide +kernel
theorem d_La_law_695 : decode code 695 = .ok (.iaload, 1) := by decide +kernel
theorem d_La_law_696 : decode code 696 = .ok (.aload_n 0, 1) := by decide +kernel
theorem d_La_law_697 : decode code 697 = .ok (.iload 4, 2) := by decide +kernel
theorem d_La_law_699 : decode code 699 = .ok (.iconst 2, 1) := by decide +kernel
theorem d_La_law_700 : decode code 700 = .ok (.iadd, 1) := by decide +kernel
theorem d_La_law_701 : decode code 701 = .ok (.iaload, 1) := by decide +kernel
theorem d_La_law_702 : decode code 702 = .ok (.aload_n 3, 1) := by decide +kernel
theorem d_La_law_703 : decode code 703 = .ok (.invokestatic 111, 3) := by decide +kernel
theorem d_La_law_706 : decode code 706 = .ok (.istore 5, 2) := by decide +kernel
theorem d_La_law_708 : decode code 708 = .ok (.aload_n 2, 1) := by decide +kernel
theorem d_La_law_709 : decode code 709 = .ok (.aload_n 0, 1) := by decide +kernel
theorem d_La_law_710 : decode code 710 = .ok (.iload 4, 2) := by decide +kernel
theorem d_La_law_712 : decode code 712 = .ok (.iconst 1, 1) := by decide +kernel
theorem d_La_law_713 : decode code 713 = .ok (.iadd, 1) := by decide +kernel
theorem d_La_law_714 : decode code 714 = .ok (.iaload, 1) := by decide +kernel
theorem d_La_law_715 : decode code 715 = .ok (.aload_n 0, 1) := by decide +kernel
theorem d_La_law_716 : decode code 716 = .ok (.iload 4, 2) := by decide +kernel
theorem d_La_law_718 : decode code 718 = .ok (.iconst 2, 1) := by decide +kernel
theorem d_La_law_719 : decode code 719 = .ok (.iadd, 1) := by decide +kernel
theorem d_La_law_720 : decode code 720 = .ok (.iaload, 1) := by decide +kernel
theorem d_La_law_721 : decode code 721 = .ok (.invokevirtual 113, 3) := by decide +kernel
theorem d_La_law_724 : decode code 724 = .ok (.istore 6, 2) := by decide +kernel
theorem d_La_law_726 : decode code 726 = .ok (.aload_n 2, 1) := by decide +kernel
theorem d_La_law_727 : decode code 727 = .ok (.invokevirtual 79, 3) := by decide +kernel
theorem d_La_law_730 : decode code 730 = .ok (.iload 5, 2) := by decide +kernel
theorem d_La_law_732 : decode code 732 = .ok (.if_icmp .eq 5, 3) := by decide +kernel
theorem d_La_law_735 : decode code 735 = .ok (.iconst 0, 1) := by decide +kernel
theorem d_La_law_736 : decode code 736 = .ok (.ireturn, 1) := by decide +kernel
theorem d_La_law_737 : decode code 737 = .ok (.iload 5, 2) := by decide +kernel
theorem d_La_law_739 : decode code 739 = .ok (.ifCond .ne 15, 3) := by decide +kernel
theorem d_La_law_742 : decode code 742 = .ok (.aload_n 3, 1) := by decide +kernel
theorem d_La_law_743 : decode code 743 = .ok (.iconst 0, 1) := by decide +kernel
theorem d_La_law_744 : decode code 744 = .ok (.laload, 1) := by decide +kernel
theorem d_La_law_745 : decode code 745 = .ok (.iload 6, 2) := by decide +kernel
theorem d_La_law_747 : decode code 747 = .ok (.i2l, 1) := by decide +kernel
theorem d_La_law_748 : decode code 748 = .ok (.lcmp, 1) := by decide +kernel
theorem d_La_law_749 : decode code 749 = .ok (.ifCond .eq 5, 3) := by decide +kernel
theorem d_La_law_752 : decode code 752 = .ok (.iconst 0, 1) := by decide +kernel
theorem d_La_law_753 : decode code 753 = .ok (.ireturn, 1) := by decide +kernel
theorem d_La_law_754 : decode code 754 = .ok (.goto 435, 3) := by decide +kernel
theorem d_La_law_757 : decode code 757 = .ok (.aload_n 1, 1) := by decide +kernel
theorem d_La_law_758 : decode code 758 = .ok (.aload_n 0, 1) := by decide +kernel
theorem d_La_law_759 : decode code 759 = .ok (.iload 4, 2) := by decide +kernel
theorem d_La_law_761 : decode code 761 = .ok (.iconst 1, 1) := by decide +kernel
theorem d_La_law_762 : decode code 762 = .ok (.iadd, 1) := by decide +kernel
theorem d_La_law_763 : decode code 763 = .ok (.iaload, 1) := by decide +kernel
theorem d_La_law_764 : decode code 764 = .ok (.aload_n 0, 1) := by decide +kernel
theorem d_La_law_765 : decode code 765 = .ok (.iload 4, 2) := by decide +kernel
theorem d_La_law_767 : decode code 767 = .ok (.iconst 2, 1) := by decide +kernel
theorem d_La_law_768 : decode code 768 = .ok (.iadd, 1) := by decide +kernel
theorem d_La_law_769 : decode code 769 = .ok (.iaload, 1) := by decide +kernel
theorem d_La_law_770 : decode code 770 = .ok (.aload_n 3, 1) := by decide +kernel
theorem d_La_law_771 : decode code 771 = .ok (.invokestatic 114, 3) := by decide +kernel
theorem d_La_law_774 : decode code 774 = .ok (.istore 5, 2) := by decide +kernel
theorem d_La_law_776 : decode code 776 = .ok (.aload_n 2, 1) := by decide +kernel
theorem d_La_law_777 : decode code 777 = .ok (.aload_n 0, 1) := by decide +kernel
theorem d_La_law_778 : decode code 778 = .ok (.iload 4, 2) := by decide +kernel
theorem d_La_law_780 : decode code 780 = .ok (.iconst 1, 1) := by decide +kernel
theorem d_La_law_781 : decode code 781 = .ok (.iadd, 1) := by decide +kernel
theorem d_La_law_782 : decode code 782 = .ok (.iaload, 1) := by decide +kernel
theorem d_La_law_783 : decode code 783 = .ok (.aload_n 0, 1) := by decide +kernel
theorem d_La_law_784 : decode code 784 = .ok (.iload 4, 2) := by decide +kernel
theorem d_La_law_786 : decode code 786 = .ok (.iconst 2, 1) := by decide +kernel
theorem d_La_law_787 : decode code 787 = .ok (.iadd, 1) := by decide +kernel
theorem d_La_law_788 : decode code 788 = .ok (.iaload, 1) := by decide +kernel
theorem d_La_law_789 : decode code 789 = .ok (.invokevirtual 116, 3) := by decide +kernel
theorem d_La_law_792 : decode code 792 = .ok (.istore 6, 2) := by decide +kernel
theorem d_La_law_794 : decode code 794 = .ok (.aload_n 2, 1) := by decide +kernel
theorem d_La_law_795 : decode code 795 = .ok (.invokevirtual 79, 3) := by decide +kernel
theorem d_La_law_798 : decode code 798 = .ok (.iload 5, 2) := by decide +kernel
theorem d_La_law_800 : decode code 800 = .ok (.if_icmp .eq 5, 3) := by decide +kernel
theorem d_La_law_803 : decode code 803 = .ok (.iconst 0, 1) := by decide +kernel
theorem d_La_law_804 : decode code 804 = .ok (.ireturn, 1) := by decide +kernel
theorem d_La_law_805 : decode code 805 = .ok (.iload 5, 2) := by decide +kernel
theorem d_La_law_807 : decode code 807 = .ok (.ifCond .ne 15, 3) := by decide +kernel
theorem d_La_law_810 : decode code 810 = .ok (.aload_n 3, 1) := by decide +kernel
theorem d_La_law_811 : decode code 811 = .ok (.iconst 0, 1) := by decide +kernel
theorem d_La_law_812 : decode code 812 = .ok (.laload, 1) := by decide +kernel
theorem d_La_law_813 : decode code 813 = .ok (.iload 6, 2) := by decide +kernel
theorem d_La_law_815 : decode code 815 = .ok (.i2l, 1) := by decide +kernel
theorem d_La_law_816 : decode code 816 = .ok (.lcmp, 1) := by decide +kernel
theorem d_La_law_817 : decode code 817 = .ok (.ifCond .eq 5, 3) := by decide +kernel
theorem d_La_law_820 : decode code 820 = .ok (.iconst 0, 1) := by decide +kernel
theorem d_La_law_821 : decode code 821 = .ok (.ireturn, 1) := by decide +kernel
theorem d_La_law_822 : decode code 822 = .ok (.goto 367, 3) := by decide +kernel
theorem d_La_law_825 : decode code 825 = .ok (.aload_n 1, 1) := by decide +kernel
theorem d_La_law_826 : decode code 826 = .ok (.aload_n 0, 1) := by decide +kernel
theorem d_La_law_827 : decode code 827 = .ok (.iload 4, 2) := by decide +kernel
theorem d_La_law_829 : decode code 829 = .ok (.iconst 1, 1) := by decide +kernel
theorem d_La_law_830 : decode code 830 = .ok (.iadd, 1) := by decide +kernel
theorem d_La_law_831 : decode code 831 = .ok (.iaload, 1) := by decide +kernel
theorem d_La_law_832 : decode code 832 = .ok (.aload_n 0, 1) := by decide +kernel
theorem d_La_law_833 : decode code 833 = .ok (.iload 4, 2) := by decide +kernel
theorem d_La_law_835 : decode code 835 = .ok (.iconst 2, 1) := by decide +kernel
theorem d_La_law_836 : decode code 836 = .ok (.iadd, 1) := by decide +kernel
theorem d_La_law_837 : decode code 837 = .ok (.iaload, 1) := by decide +kernel
theorem d_La_law_838 : decode code 838 = .ok (.aload_n 3, 1) := by decide +kernel
theorem d_La_law_839 : decode code 839 = .ok (.invokestatic 117, 3) := by decide +kernel
theorem d_La_law_842 : decode code 842 = .ok (.istore 5, 2) := by decide +kernel
theorem d_La_law_844 : decode code 844 = .ok (.aload_n 2, 1) := by decide +kernel
theorem d_La_law_845 : decode code 845 = .ok (.aload_n 0, 1) := by decide +kernel
theorem d_La_law_846 : decode code 846 = .ok (.iload 4, 2) := by decide +kernel
theorem d_La_law_848 : decode code 848 = .ok (.iconst 1, 1) := by decide +kernel
theorem d_La_law_849 : decode code 849 = .ok (.iadd, 1) := by decide +kernel
theorem d_La_law_850 : decode code 850 = .ok (.iaload, 1) := by decide +kernel
theorem d_La_law_851 : decode code 851 = .ok (.aload_n 0, 1) := by decide +kernel
theorem d_La_law_852 : decode code 852 = .ok (.iload 4, 2) := by decide +kernel
theorem d_La_law_854 : decode code 854 = .ok (.iconst 2, 1) := by decide +kernel
theorem d_La_law_855 : decode code 855 = .ok (.iadd, 1) := by decide +kernel
theorem d_La_law_856 : decode code 856 = .ok (.iaload, 1) := by decide +kernel
theorem d_La_law_857 : decode code 857 = .ok (.invokevirtual 119, 3) := by decide +kernel
theorem d_La_law_860 : decode code 860 = .ok (.istore 6, 2) := by decide +kernel
theorem d_La_law_862 : decode code 862 = .ok (.aload_n 2, 1) := by decide +kernel
theorem d_La_law_863 : decode code 863 = .ok (.invokevirtual 79, 3) := by decide +kernel
theorem d_La_law_866 : decode code 866 = .ok (.iload 5, 2) := by decide +kernel
theorem d_La_law_868 : decode code 868 = .ok (.if_icmp .eq 5, 3) := by decide +kernel
theorem d_La_law_871 : decode code 871 = .ok (.iconst 0, 1) := by decide +kernel
theorem d_La_law_872 : decode code 872 = .ok (.ireturn, 1) := by decide +kernel
theorem d_La_law_873 : decode code 873 = .ok (.iload 5, 2) := by decide +kernel
theorem d_La_law_875 : decode code 875 = .ok (.ifCond .ne 15, 3) := by decide +kernel
theorem d_La_law_878 : decode code 878 = .ok (.aload_n 3, 1) := by decide +kernel
theorem d_La_law_879 : decode code 879 = .ok (.iconst 0, 1) := by decide +kernel
theorem d_La_law_880 : decode code 880 = .ok (.laload, 1) := by decide +kernel
theorem d_La_law_881 : decode code 881 = .ok (.iload 6, 2) := by decide +kernel
theorem d_La_law_883 : decode code 883 = .ok (.i2l, 1) := by decide +kernel
theorem d_La_law_884 : decode code 884 = .ok (.lcmp, 1) := by decide +kernel
theorem d_La_law_885 : decode code 885 = .ok (.ifCond .eq 5, 3) := by decide +kernel
theorem d_La_law_888 : decode code 888 = .ok (.iconst 0, 1) := by decide +kernel
theorem d_La_law_889 : decode code 889 = .ok (.ireturn, 1) := by decide +kernel
theorem d_La_law_890 : decode code 890 = .ok (.goto 299, 3) := by decide +kernel
theorem d_La_law_893 : decode code 893 = .ok (.aload_n 1, 1) := by decide +kernel
theorem d_La_law_894 : decode code 894 = .ok (.aload_n 0, 1) := by decide +kernel
theorem d_La_law_895 : decode code 895 = .ok (.iload 4, 2) := by decide +kernel
theorem d_La_law_897 : decode code 897 = .ok (.iconst 1, 1) := by decide +kernel
theorem d_La_law_898 : decode code 898 = .ok (.iadd, 1) := by decide +kernel
theorem d_La_law_899 : decode code 899 = .ok (.iaload, 1) := by decide +kernel
theorem d_La_law_900 : decode code 900 = .ok (.aload_n 3, 1) := by decide +kernel
theorem d_La_law_901 : decode code 901 = .ok (.invokestatic 120, 3) := by decide +kernel
theorem d_La_law_904 : decode code 904 = .ok (.istore 5, 2) := by decide +kernel
theorem d_La_law_906 : decode code 906 = .ok (.aload_n 2, 1) := by decide +kernel
theorem d_La_law_907 : decode code 907 = .ok (.aload_n 0, 1) := by decide +kernel
theorem d_La_law_908 : decode code 908 = .ok (.iload 4, 2) := by decide +kernel
theorem d_La_law_910 : decode code 910 = .ok (.iconst 1, 1) := by decide +kernel
theorem d_La_law_911 : decode code 911 = .ok (.iadd, 1) := by decide +kernel
theorem d_La_law_912 : decode code 912 = .ok (.iaload, 1) := by decide +kernel
theorem d_La_law_913 : decode code 913 = .ok (.invokevirtual 122, 3) := by decide +kernel
theorem d_La_law_916 : decode code 916 = .ok (.istore 6, 2) := by decide +kernel
theorem d_La_law_918 : decode code 918 = .ok (.aload_n 2, 1) := by decide +kernel
theorem d_La_law_919 : decode code 919 = .ok (.invokevirtual 79, 3) := by decide +kernel
theorem d_La_law_922 : decode code 922 = .ok (.iload 5, 2) := by decide +kernel
theorem d_La_law_924 : decode code 924 = .ok (.if_icmp .eq 5, 3) := by decide +kernel
theorem d_La_law_927 : decode code 927 = .ok (.iconst 0, 1) := by decide +kernel
theorem d_La_law_928 : decode code 928 = .ok (.ireturn, 1) := by decide +kernel
theorem d_La_law_929 : decode code 929 = .ok (.iload 5, 2) := by decide +kernel
theorem d_La_law_931 : decode code 931 = .ok (.ifCond .ne 15, 3) := by decide +kernel
theorem d_La_law_934 : decode code 934 = .ok (.aload_n 3, 1) := by decide +kernel
theorem d_La_law_935 : decode code 935 = .ok (.iconst 0, 1) := by decide +kernel
theorem d_La_law_936 : decode code 936 = .ok (.laload, 1) := by decide +kernel
theorem d_La_law_937 : decode code 937 = .ok (.iload 6, 2) := by decide +kernel
theorem d_La_law_939 : decode code 939 = .ok (.i2l, 1) := by decide +kernel
theorem d_La_law_940 : decode code 940 = .ok (.lcmp, 1) := by decide +kernel
theorem d_La_law_941 : decode code 941 = .ok (.ifCond .eq 5, 3) := by decide +kernel
theorem d_La_law_944 : decode code 944 = .ok (.iconst 0, 1) := by decide +kernel
