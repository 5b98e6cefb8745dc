theorem dL_small_703 : decode cL_small 703 = .ok (.if_icmp .ne 63, 3) := by decide +kernel
theorem dL_small_706 : decode cL_small 706 = .ok (.aload_n 0, 1) := by decide +kernel
theorem dL_small_707 : decode cL_small 707 = .ok (.iconst 2, 1) := by decide +kernel
theorem dL_small_708 : decode cL_small 708 = .ok (.iconst 2, 1) := by decide +kernel
theorem dL_small_709 : decode cL_small 709 = .ok (.invokevirtual 52, 3) := by decide +kernel
theorem dL_small_712 : decode cL_small 712 = .ok (.iconst 3, 1) := by decide +kernel
theorem dL_small_713 : decode cL_small 713 = .ok (.if_icmp .ne 53, 3) := by decide +kernel
theorem dL_small_716 : decode cL_small 716 = .ok (.aload_n 0, 1) := by decide +kernel
theorem dL_small_717 : decode cL_small 717 = .ok (.iconst 1, 1) := by decide +kernel
theorem dL_small_718 : decode cL_small 718 = .ok (.invokevirtual 55, 3) := by decide +kernel
theorem dL_small_721 : decode cL_small 721 = .ok (.bipush 9, 2) := by decide +kernel
theorem dL_small_723 : decode cL_small 723 = .ok (.if_icmp .ne 43, 3) := by decide +kernel
theorem dL_small_726 : decode cL_small 726 = .ok (.aload_n 0, 1) := by decide +kernel
theorem dL_small_727 : decode cL_small 727 = .ok (.iconst 2, 1) := by decide +kernel
theorem dL_small_728 : decode cL_small 728 = .ok (.invokevirtual 55, 3) := by decide +kernel
theorem dL_small_731 : decode cL_small 731 = .ok (.bipush 17, 2) := by decide +kernel
theorem dL_small_733 : decode cL_small 733 = .ok (.if_icmp .ne 33, 3) := by decide +kernel
theorem dL_small_736 : decode cL_small 736 = .ok (.aload_n 0, 1) := by decide +kernel
theorem dL_small_737 : decode cL_small 737 = .ok (.invokevirtual 88, 3) := by decide +kernel
theorem dL_small_740 : decode cL_small 740 = .ok (.bipush 14, 2) := by decide +kernel
theorem dL_small_742 : decode cL_small 742 = .ok (.if_icmp .ne 24, 3) := by decide +kernel
theorem dL_small_745 : decode cL_small 745 = .ok (.aload_n 0, 1) := by decide +kernel
theorem dL_small_746 : decode cL_small 746 = .ok (.iconst 0, 1) := by decide +kernel
theorem dL_small_747 : decode cL_small 747 = .ok (.invokevirtual 55, 3) := by decide +kernel
theorem dL_small_750 : decode cL_small 750 = .ok (.bipush 12, 2) := by decide +kernel
theorem dL_small_752 : decode cL_small 752 = .ok (.if_icmp .ne 14, 3) := by decide +kernel
theorem dL_small_755 : decode cL_small 755 = .ok (.aload_n 0, 1) := by decide +kernel
theorem dL_small_756 : decode cL_small 756 = .ok (.invokevirtual 111, 3) := by decide +kernel
theorem dL_small_759 : decode cL_small 759 = .ok (.ldc2_w 124, 3) := by decide +kernel
theorem dL_small_762 : decode cL_small 762 = .ok (.dcmp .l, 1) := by decide +kernel
theorem dL_small_763 : decode cL_small 763 = .ok (.ifCond .eq 5, 3) := by decide +kernel
theorem dL_small_766 : decode cL_small 766 = .ok (.iconst 0, 1) := by decide +kernel
theorem dL_small_767 : decode cL_small 767 = .ok (.ireturn, 1) := by decide +kernel
theorem dL_small_768 : decode cL_small 768 = .ok (.aload_n 0, 1) := by decide +kernel
theorem dL_small_769 : decode cL_small 769 = .ok (.iconst 4, 1) := by decide +kernel
theorem dL_small_770 : decode cL_small 770 = .ok (.iconst 0, 1) := by decide +kernel
theorem dL_small_771 : decode cL_small 771 = .ok (.iconst 2, 1) := by decide +kernel
theorem dL_small_772 : decode cL_small 772 = .ok (.iconst 1, 1) := by decide +kernel
theorem dL_small_773 : decode cL_small 773 = .ok (.invokevirtual 19, 3) := by decide +kernel
theorem dL_small_776 : decode cL_small 776 = .ok (.iconst 1, 1) := by decide +kernel
theorem dL_small_777 : decode cL_small 777 = .ok (.if_icmp .ne 125, 3) := by decide +kernel
theorem dL_small_780 : decode cL_small 780 = .ok (.aload_n 0, 1) := by decide +kernel
theorem dL_small_781 : decode cL_small 781 = .ok (.iconst 2, 1) := by decide +kernel
theorem dL_small_782 : decode cL_small 782 = .ok (.iconst 0, 1) := by decide +kernel
theorem dL_small_783 : decode cL_small 783 = .ok (.invokevirtual 52, 3) := by decide +kernel
theorem dL_small_786 : decode cL_small 786 = .ok (.iconst 2, 1) := by decide +kernel
theorem dL_small_787 : decode cL_small 787 = .ok (.if_icmp .ne 115, 3) := by decide +kernel
theorem dL_small_790 : decode cL_small 790 = .ok (.aload_n 0, 1) := by decide +kernel
theorem dL_small_791 : decode cL_small 791 = .ok (.iconst 0, 1) := by decide +kernel
theorem dL_small_792 : decode cL_small 792 = .ok (.iconst 2, 1) := by decide +kernel
theorem dL_small_793 : decode cL_small 793 = .ok (.invokevirtual 52, 3) := by decide +kernel
theorem dL_small_796 : decode cL_small 796 = .ok (.iconst 2, 1) := by decide +kernel
theorem dL_small_797 : decode cL_small 797 = .ok (.if_icmp .ne 105, 3) := by decide +kernel
theorem dL_small_800 : decode cL_small 800 = .ok (.aload_n 0, 1) := by decide +kernel
theorem dL_small_801 : decode cL_small 801 = .ok (.iconst 1, 1) := by decide +kernel
theorem dL_small_802 : decode cL_small 802 = .ok (.bipush 10, 2) := by decide +kernel
theorem dL_small_804 : decode cL_small 804 = .ok (.invokevirtual 9, 3) := by decide +kernel
theorem dL_small_807 : decode cL_small 807 = .ok (.bipush 37, 2) := by decide +kernel
theorem dL_small_809 : decode cL_small 809 = .ok (.if_icmp .ne 93, 3) := by decide +kernel
theorem dL_small_812 : decode cL_small 812 = .ok (.aload_n 0, 1) := by decide +kernel
theorem dL_small_813 : decode cL_small 813 = .ok (.iconst 0, 1) := by decide +kernel
theorem dL_small_814 : decode cL_small 814 = .ok (.iconst 0, 1) := by decide +kernel
theorem dL_small_815 : decode cL_small 815 = .ok (.bipush 50, 2) := by decide +kernel
theorem dL_small_817 : decode cL_small 817 = .ok (.bipush 9, 2) := by decide +kernel
theorem dL_small_819 : decode cL_small 819 = .ok (.invokevirtual 19, 3) := by decide +kernel
theorem dL_small_822 : decode cL_small 822 = .ok (.iconst 1, 1) := by decide +kernel
theorem dL_small_823 : decode cL_small 823 = .ok (.if_icmp .ne 79, 3) := by decide +kernel
theorem dL_small_826 : decode cL_small 826 = .ok (.aload_n 0, 1) := by decide +kernel
theorem dL_small_827 : decode cL_small 827 = .ok (.iconst 0, 1) := by decide +kernel
theorem dL_small_828 : decode cL_small 828 = .ok (.iconst 5, 1) := by decide +kernel
theorem dL_small_829 : decode cL_small 829 = .ok (.invokevirtual 49, 3) := by decide +kernel
theorem dL_small_832 : decode cL_small 832 = .ok (.sipush 9025, 3) := by decide +kernel
theorem dL_small_835 : decode cL_small 835 = .ok (.if_icmp .ne 67, 3) := by decide +kernel
theorem dL_small_838 : decode cL_small 838 = .ok (.aload_n 0, 1) := by decide +kernel
theorem dL_small_839 : decode cL_small 839 = .ok (.iconst 0, 1) := by decide +kernel
theorem dL_small_840 : decode cL_small 840 = .ok (.bipush 6, 2) := by decide +kernel
theorem dL_small_842 : decode cL_small 842 = .ok (.invokevirtual 49, 3) := by decide +kernel
theorem dL_small_845 : decode cL_small 845 = .ok (.sipush 9999, 3) := by decide +kernel
theorem dL_small_848 : decode cL_small 848 = .ok (.if_icmp .ne 54, 3) := by decide +kernel
theorem dL_small_851 : decode cL_small 851 = .ok (.aload_n 0, 1) := by decide +kernel
theorem dL_small_852 : decode cL_small 852 = .ok (.iconst 0, 1) := by decide +kernel
theorem dL_small_853 : decode cL_small 853 = .ok (.bipush 9, 2) := by decide +kernel
theorem dL_small_855 : decode cL_small 855 = .ok (.invokevirtual 49, 3) := by decide +kernel
theorem dL_small_858 : decode cL_small 858 = .ok (.sipush 9999, 3) := by decide +kernel
theorem dL_small_861 : decode cL_small 861 = .ok (.if_icmp .ne 41, 3) := by decide +kernel
theorem dL_small_864 : decode cL_small 864 = .ok (.aload_n 0, 1) := by decide +kernel
theorem dL_small_865 : decode cL_small 865 = .ok (.iconst 0, 1) := by decide +kernel
theorem dL_small_866 : decode cL_small 866 = .ok (.iconst 2, 1) := by decide +kernel
theorem dL_small_867 : decode cL_small 867 = .ok (.invokevirtual 52, 3) := by decide +kernel
theorem dL_small_870 : decode cL_small 870 = .ok (.ifCond .ne 32, 3) := by decide +kernel
theorem dL_small_873 : decode cL_small 873 = .ok (.aload_n 0, 1) := by decide +kernel
theorem dL_small_874 : decode cL_small 874 = .ok (.iconst 1, 1) := by decide +kernel
theorem dL_small_875 : decode cL_small 875 = .ok (.invokevirtual 55, 3) := by decide +kernel
theorem dL_small_878 : decode cL_small 878 = .ok (.bipush 10, 2) := by decide +kernel
theorem dL_small_880 : decode cL_small 880 = .ok (.if_icmp .ne 22, 3) := by decide +kernel
theorem dL_small_883 : decode cL_small 883 = .ok (.aload_n 0, 1) := by decide +kernel
theorem dL_small_884 : decode cL_small 884 = .ok (.iconst 2, 1) := by decide +kernel
theorem dL_small_885 : decode cL_small 885 = .ok (.invokevirtual 55, 3) := by decide +kernel
theorem dL_small_888 : decode cL_small 888 = .ok (.bipush 19, 2) := by decide +kernel
theorem dL_small_890 : decode cL_small 890 = .ok (.if_icmp .ne 12, 3) := by decide +kernel
theorem dL_small_893 : decode cL_small 893 = .ok (.aload_n 0, 1) := by decide +kernel
theorem dL_small_894 : decode cL_small 894 = .ok (.invokevirtual 88, 3) := by decide +kernel
theorem dL_small_897 : decode cL_small 897 = .ok (.bipush 11, 2) := by decide +kernel
theorem dL_small_899 : decode cL_small 899 = .ok (.if_icmp .eq 5, 3) := by decide +kernel
theorem dL_small_902 : decode cL_small 902 = .ok (.iconst 0, 1) := by decide +kernel
theorem dL_small_903 : decode cL_small 903 = .ok (.ireturn, 1) := by decide +kernel
theorem dL_small_904 : decode cL_small 904 = .ok (.aload_n 0, 1) := by decide +kernel
theorem dL_small_905 : decode cL_small 905 = .ok (.iconst 2, 1) := by decide +kernel
theorem dL_small_906 : decode cL_small 906 = .ok (.bipush 10, 2) := by decide +kernel
theorem dL_small_908 : decode cL_small 908 = .ok (.invokevirtual 9, 3) := by decide +kernel
theorem dL_small_911 : decode cL_small 911 = .ok (.bipush 21, 2) := by decide +kernel
theorem dL_small_913 : decode cL_small 913 = .ok (.if_icmp .ne 78, 3) := by decide +kernel
theorem dL_small_916 : decode cL_small 916 = .ok (.aload_n 0, 1) := by decide +kernel
theorem dL_small_917 : decode cL_small 917 = .ok (.iconst 1, 1) := by decide +kernel
theorem dL_small_918 : decode cL_small 918 = .ok (.iconst 0, 1) := by decide +kernel
theorem dL_small_919 : decode cL_small 919 = .ok (.invokevirtual 49, 3) := by decide +kernel
theorem dL_small_922 : decode cL_small 922 = .ok (.iconst 4, 1) := by decide +kernel
theorem dL_small_923 : decode cL_small 923 = .ok (.if_icmp .ne 68, 3) := by decide +kernel
theorem dL_small_926 : decode cL_small 926 = .ok (.aload_n 0, 1) := by decide +kernel
theorem dL_small_927 : decode cL_small 927 = .ok (.iconst 1, 1) := by decide +kernel
theorem dL_small_928 : decode cL_small 928 = .ok (.iconst 4, 1) := by decide +kernel
theorem dL_small_929 : decode cL_small 929 = .ok (.invokevirtual 49, 3) := by decide +kernel
theorem dL_small_932 : decode cL_small 932 = .ok (.ifCond .ne 59, 3) := by decide +kernel
theorem dL_small_935 : decode cL_small 935 = .ok (.aload_n 0, 1) := by decide +kernel
theorem dL_small_936 : decode cL_small 936 = .ok (.iconst 0, 1) := by decide +kernel
theorem dL_small_937 : decode cL_small 937 = .ok (.invokevirtual 43, 3) := by decide +kernel
theorem dL_small_940 : decode cL_small 940 = .ok (.iconst 2, 1) := by decide +kernel
theorem dL_small_941 : decode cL_small 941 = .ok (.if_icmp .ne 50, 3) := by decide +kernel
theorem dL_small_944 : decode cL_small 944 = .ok (.aload_n 0, 1) := by decide +kernel
theorem dL_small_945 : decode cL_small 945 = .ok (.iconst 1, 1) := by decide +kernel
theorem dL_small_946 : decode cL_small 946 = .ok (.invokevirtual 61, 3) := by decide +kernel
theorem dL_small_949 : decode cL_small 949 = .ok (.iconst 2, 1) := by decide +kernel
theorem dL_small_950 : decode cL_small 950 = .ok (.if_icmp .ne 41, 3) := by decide +kernel
theorem dL_small_953 : decode cL_small 953 = .ok (.aload_n 0, 1) := by decide +kernel
theorem dL_small_954 : decode cL_small 954 = .ok (.iconst 3, 1) := by decide +kernel
theorem dL_small_955 : decode cL_small 955 = .ok (.invokevirtual 58, 3) := by decide +kernel
theorem dL_small_958 : decode cL_small 958 = .ok (.iconst 1, 1) := by decide +kernel
theorem dL_small_959 : decode cL_small 959 = .ok (.if_icmp .ne 32, 3) := by decide +kernel
theorem dL_small_962 : decode cL_small 962 = .ok (.aload_n 0, 1) := by decide +kernel
theorem dL_small_963 : decode cL_small 963 = .ok (.iconst 5, 1) := by decide +kernel
theorem dL_small_964 : decode cL_small 964 = .ok (.invokevirtual 61, 3) := by decide +kernel
theorem dL_small_967 : decode cL_small 967 = .ok (.iconst 1, 1) := by decide +kernel
theorem dL_small_968 : decode cL_small 968 = .ok (.if_icmp .ne 23, 3) := by decide +kernel
theorem dL_small_971 : decode cL_small 971 = .ok (.aload_n 0, 1) := by decide +kernel
theorem dL_small_972 : decode cL_small 972 = .ok (.bipush 6, 2) := by decide +kernel
theorem dL_small_974 : decode cL_small 974 = .ok (.invokevirtual 61, 3) := by decide +kernel
theorem dL_small_977 : decode cL_small 977 = .ok (.ifCond .ne 14, 3) := by decide +kernel
theorem dL_small_980 : decode cL_small 980 = .ok (.aload_n 0, 1) := by decide +kernel
theorem dL_small_981 : decode cL_small 981 = .ok (.invokestatic 117, 3) := by decide +kernel
theorem dL_small_984 : decode cL_small 984 = .ok (.ifCond .eq 7, 3) := by decide +kernel
theorem dL_small_987 : decode cL_small 987 = .ok (.iconst 1, 1) := by decide +kernel
theorem dL_small_988 : decode cL_small 988 = .ok (.goto 4, 3) := by decide +kernel
theorem dL_small_991 : decode cL_small 991 = .ok (.iconst 0, 1) := by decide +kernel
theorem dL_small_992 : decode cL_small 992 = .ok (.ireturn, 1) := by decide +kernel
theorem dL_weights_0 : decode cL_weights 0 = .ok (.new 10, 3) := by decide +kernel
theorem dL_weights_3 : decode cL_weights 3 = .ok (.dup, 1) := by decide +kernel
theorem dL_weights_4 : decode cL_weights 4 = .ok (.invokespecial 110, 3) := by decide +kernel
theorem dL_weights_7 : decode cL_weights 7 = .ok (.astore_n 0, 1) := by decide +kernel
theorem dL_weights_8 : decode cL_weights 8 = .ok (.aload_n 0, 1) := by decide +kernel
theorem dL_weights_9 : decode cL_weights 9 = .ok (.iconst 5, 1) := by decide +kernel
theorem dL_weights_10 : decode cL_weights 10 = .ok (.invokevirtual 27, 3) := by decide +kernel
theorem dL_weights_13 : decode cL_weights 13 = .ok (.iconst 2, 1) := by decide +kernel
theorem dL_weights_14 : decode cL_weights 14 = .ok (.if_icmp .ne 220, 3) := by decide +kernel
theorem dL_weights_17 : decode cL_weights 17 = .ok (.aload_n 0, 1) := by decide +kernel
theorem dL_weights_18 : decode cL_weights 18 = .ok (.iconst 3, 1) := by decide +kernel
theorem dL_weights_19 : decode cL_weights 19 = .ok (.invokevirtual 27, 3) := by decide +kernel
theorem dL_weights_22 : decode cL_weights 22 = .ok (.iconst 3, 1) := by decide +kernel
theorem dL_weights_23 : decode cL_weights 23 = .ok (.if_icmp .ne 211, 3) := by decide +kernel
theorem dL_weights_26 : decode cL_weights 26 = .ok (.aload_n 0, 1) := by decide +kernel
theorem dL_weights_27 : decode cL_weights 27 = .ok (.bipush 8, 2) := by decide +kernel
theorem dL_weights_29 : decode cL_weights 29 = .ok (.invokevirtual 27, 3) := by decide +kernel
theorem dL_weights_32 : decode cL_weights 32 = .ok (.iconst 4, 1) := by decide +kernel
theorem dL_weights_33 : decode cL_weights 33 = .ok (.if_icmp .ne 201, 3) := by decide +kernel
theorem dL_weights_36 : decode cL_weights 36 = .ok (.aload_n 0, 1) := by decide +kernel
theorem dL_weights_37 : decode cL_weights 37 = .ok (.iconst 3, 1) := by decide +kernel
theorem dL_weights_38 : decode cL_weights 38 = .ok (.invokevirtual 61, 3) := by decide +kernel
theorem dL_weights_41 : decode cL_weights 41 = .ok (.bipush 17, 2) := by decide +kernel
theorem dL_weights_43 : decode cL_weights 43 = .ok (.if_icmp .ne 191, 3) := by decide +kernel
theorem dL_weights_46 : decode cL_weights 46 = .ok (.aload_n 0, 1) := by decide +kernel
theorem dL_weights_47 : decode cL_weights 47 = .ok (.iconst 1, 1) := by decide +kernel
theorem dL_weights_48 : decode cL_weights 48 = .ok (.iconst 0, 1) := by decide +kernel
theorem dL_weights_49 : decode cL_weights 49 = .ok (.invokevirtual 67, 3) := by decide +kernel
theorem dL_weights_52 : decode cL_weights 52 = .ok (.sipush 289, 3) := by decide +kernel
theorem dL_weights_55 : decode cL_weights 55 = .ok (.if_icmp .ne 179, 3) := by decide +kernel
theorem dL_weights_58 : decode cL_weights 58 = .ok (.aload_n 0, 1) := by decide +kernel
theorem dL_weights_59 : decode cL_weights 59 = .ok (.iconst 2, 1) := by decide +kernel
theorem dL_weights_60 : decode cL_weights 60 = .ok (.iconst 0, 1) := by decide +kernel
theorem dL_weights_61 : decode cL_weights 61 = .ok (.invokevirtual 67, 3) := by decide +kernel
theorem dL_weights_64 : decode cL_weights 64 = .ok (.sipush 145, 3) := by decide +kernel
theorem dL_weights_67 : decode cL_weights 67 = .ok (.if_icmp .ne 167, 3) := by decide +kernel
theorem dL_weights_70 : decode cL_weights 70 = .ok (.aload_n 0, 1) := by decide +kernel
theorem dL_weights_71 : decode cL_weights 71 = .ok (.iconst 2, 1) := by decide +kernel
theorem dL_weights_72 : decode cL_weights 72 = .ok (.iconst 1, 1) := by decide +kernel
theorem dL_weights_73 : decode cL_weights 73 = .ok (.invokevirtual 67, 3) := by decide +kernel
theorem dL_weights_76 : decode cL_weights 76 = .ok (.sipush 145, 3) := by decide +kernel
theorem dL_weights_79 : decode cL_weights 79 = .ok (.if_icmp .ne 155, 3) := by decide +kernel
theorem dL_weights_82 : decode cL_weights 82 = .ok (.aload_n 0, 1) := by decide +kernel
theorem dL_weights_83 : decode cL_weights 83 = .ok (.iconst 2, 1) := by decide +kernel
theorem dL_weights_84 : decode cL_weights 84 = .ok (.iconst 0, 1) := by decide +kernel
theorem dL_weights_85 : decode cL_weights 85 = .ok (.invokevirtual 70, 3) := by decide +kernel
theorem dL_weights_88 : decode cL_weights 88 = .ok (.iconst 3, 1) := by decide +kernel
theorem dL_weights_89 : decode cL_weights 89 = .ok (.if_icmp .ne 145, 3) := by decide +kernel
theorem dL_weights_92 : decode cL_weights 92 = .ok (.aload_n 0, 1) := by decide +kernel
theorem dL_weights_93 : decode cL_weights 93 = .ok (.iconst 3, 1) := by decide +kernel
theorem dL_weights_94 : decode cL_weights 94 = .ok (.iconst 0, 1) := by decide +kernel
theorem dL_weights_95 : decode cL_weights 95 = .ok (.invokevirtual 67, 3) := by decide +kernel
theorem dL_weights_98 : decode cL_weights 98 = .ok (.bipush 109, 2) := by decide +kernel
theorem dL_weights_100 : decode cL_weights 100 = .ok (.if_icmp .ne 134, 3) := by decide +kernel
theorem dL_weights_103 : decode cL_weights 103 = .ok (.aload_n 0, 1) := by decide +kernel
theorem dL_weights_104 : decode cL_weights 104 = .ok (.iconst 3, 1) := by decide +kernel
theorem dL_weights_105 : decode cL_weights 105 = .ok (.iconst 0, 1) := by decide +kernel
theorem dL_weights_106 : decode cL_weights 106 = .ok (.invokevirtual 70, 3) := by decide +kernel
theorem dL_weights_109 : decode cL_weights 109 = .ok (.iconst 2, 1) := by decide +kernel
theorem dL_weights_110 : decode cL_weights 110 = .ok (.if_icmp .ne 124, 3) := by decide +kernel
theorem dL_weights_113 : decode cL_weights 113 = .ok (.aload_n 0, 1) := by decide +kernel
theorem dL_weights_114 : decode cL_weights 114 = .ok (.iconst 3, 1) := by decide +kernel
theorem dL_weights_115 : decode cL_weights 115 = .ok (.iconst 1, 1) := by decide +kernel
theorem dL_weights_116 : decode cL_weights 116 = .ok (.invokevirtual 70, 3) := by decide +kernel
theorem dL_weights_119 : decode cL_weights 119 = .ok (.iconst 3, 1) := by decide +kernel
theorem dL_weights_120 : decode cL_weights 120 = .ok (.if_icmp .ne 114, 3) := by decide +kernel
theorem dL_weights_123 : decode cL_weights 123 = .ok (.aload_n 0, 1) := by decide +kernel
theorem dL_weights_124 : decode cL_weights 124 = .ok (.iconst 3, 1) := by decide +kernel
theorem dL_weights_125 : decode cL_weights 125 = .ok (.iconst 2, 1) := by decide +kernel
theorem dL_weights_126 : decode cL_weights 126 = .ok (.invokevirtual 70, 3) := by decide +kernel
theorem dL_weights_129 : decode cL_weights 129 = .ok (.iconst (-1), 1) := by decide +kernel
theorem dL_weights_130 : decode cL_weights 130 = .ok (.if_icmp .ne 104, 3) := by decide +kernel
theorem dL_weights_133 : decode cL_weights 133 = .ok (.aload_n 0, 1) := by decide +kernel
theorem dL_weights_134 : decode cL_weights 134 = .ok (.iconst 4, 1) := by decide +kernel
theorem dL_weights_135 : decode cL_weights 135 = .ok (.iconst 1, 1) := by decide +kernel
theorem dL_weights_136 : decode cL_weights 136 = .ok (.invokevirtual 67, 3) := by decide +kernel
theorem dL_weights_139 : decode cL_weights 139 = .ok (.bipush 99, 2) := by decide +kernel
theorem dL_weights_141 : decode cL_weights 141 = .ok (.if_icmp .ne 93, 3) := by decide +kernel
theorem dL_weights_144 : decode cL_weights 144 = .ok (.aload_n 0, 1) := by decide +kernel
theorem dL_weights_145 : decode cL_weights 145 = .ok (.iconst 4, 1) := by decide +kernel
theorem dL_weights_146 : decode cL_weights 146 = .ok (.iconst 0, 1) := by decide +kernel
theorem dL_weights_147 : decode cL_weights 147 = .ok (.invokevirtual 70, 3) := by decide +kernel
theorem dL_weights_150 : decode cL_weights 150 = .ok (.iconst 1, 1) := by decide +kernel
theorem dL_weights_151 : decode cL_weights 151 = .ok (.if_icmp .ne 83, 3) := by decide +kernel
theorem dL_weights_154 : decode cL_weights 154 = .ok (.aload_n 0, 1) := by decide +kernel
theorem dL_weights_155 : decode cL_weights 155 = .ok (.iconst 4, 1) := by decide +kernel
theorem dL_weights_156 : decode cL_weights 156 = .ok (.iconst 2, 1) := by decide +kernel
theorem dL_weights_157 : decode cL_weights 157 = .ok (.invokevirtual 70, 3) := by decide +kernel
theorem dL_weights_160 : decode cL_weights 160 = .ok (.iconst 3, 1) := by decide +kernel
theorem dL_weights_161 : decode cL_weights 161 = .ok (.if_icmp .ne 73, 3) := by decide +kernel
theorem dL_weights_164 : decode cL_weights 164 = .ok (.aload_n 0, 1) := by decide +kernel
theorem dL_weights_165 : decode cL_weights 165 = .ok (.iconst 1, 1) := by decide +kernel
theorem dL_weights_166 : decode cL_weights 166 = .ok (.iconst 0, 1) := by decide +kernel
theorem dL_weights_167 : decode cL_weights 167 = .ok (.invokevirtual 70, 3) := by decide +kernel
theorem dL_weights_170 : decode cL_weights 170 = .ok (.iconst (-1), 1) := by decide +kernel
theorem dL_weights_171 : decode cL_weights 171 = .ok (.if_icmp .ne 63, 3) := by decide +kernel
theorem dL_weights_174 : decode cL_weights 174 = .ok (.aload_n 0, 1) := by decide +kernel
theorem dL_weights_175 : decode cL_weights 175 = .ok (.sipush 289, 3) := by decide +kernel
theorem dL_weights_178 : decode cL_weights 178 = .ok (.invokevirtual 73, 3) := by decide +kernel
theorem dL_weights_181 : decode cL_weights 181 = .ok (.iconst 1, 1) := by decide +kernel
theorem dL_weights_182 : decode cL_weights 182 = .ok (.if_icmp .ne 52, 3) := by decide +kernel
theorem dL_weights_185 : decode cL_weights 185 = .ok (.aload_n 0, 1) := by decide +kernel
theorem dL_weights_186 : decode cL_weights 186 = .ok (.sipush 288, 3) := by decide +kernel
theorem dL_weights_189 : decode cL_weights 189 = .ok (.invokevirtual 73, 3) := by decide +kernel
theorem dL_weights_192 : decode cL_weights 192 = .ok (.iconst 2, 1) := by decide +kernel
theorem dL_weights_193 : decode cL_weights 193 = .ok (.if_icmp .ne 41, 3) := by decide +kernel
theorem dL_weights_196 : decode cL_weights 196 = .ok (.aload_n 0, 1) := by decide +kernel
theorem dL_weights_197 : decode cL_weights 197 = .ok (.sipush 144, 3) := by decide +kernel
theorem dL_weights_200 : decode cL_weights 200 = .ok (.invokevirtual 73, 3) := by decide +kernel
theorem dL_weights_203 : decode cL_weights 203 = .ok (.iconst 3, 1) := by decide +kernel
theorem dL_weights_204 : decode cL_weights 204 = .ok (.if_icmp .ne 30, 3) := by decide +kernel
theorem dL_weights_207 : decode cL_weights 207 = .ok (.aload_n 0, 1) := by decide +kernel
theorem dL_weights_208 : decode cL_weights 208 = .ok (.bipush 99, 2) := by decide +kernel
theorem dL_weights_210 : decode cL_weights 210 = .ok (.invokevirtual 73, 3) := by decide +kernel
theorem dL_weights_213 : decode cL_weights 213 = .ok (.iconst 4, 1) := by decide +kernel
theorem dL_weights_214 : decode cL_weights 214 = .ok (.if_icmp .ne 20, 3) := by decide +kernel
theorem dL_weights_217 : decode cL_weights 217 = .ok (.aload_n 0, 1) := by decide +kernel
theorem dL_weights_218 : decode cL_weights 218 = .ok (.bipush 98, 2) := by decide +kernel
theorem dL_weights_220 : decode cL_weights 220 = .ok (.invokevirtual 73, 3) := by decide +kernel
theorem dL_weights_223 : decode cL_weights 223 = .ok (.iconst (-1), 1) := by decide +kernel
theorem dL_weights_224 : decode cL_weights 224 = .ok (.if_icmp .ne 10, 3) := by decide +kernel
theorem dL_weights_227 : decode cL_weights 227 = .ok (.aload_n 0, 1) := by decide +kernel
theorem dL_weights_228 : decode cL_weights 228 = .ok (.invokestatic 117, 3) := by decide +kernel
theorem dL_weights_231 : decode cL_weights 231 = .ok (.ifCond .ne 5, 3) := by decide +kernel
theorem dL_weights_234 : decode cL_weights 234 = .ok (.iconst 0, 1) := by decide +kernel
theorem dL_weights_235 : decode cL_weights 235 = .ok (.ireturn, 1) := by decide +kernel
theorem dL_weights_236 : decode cL_weights 236 = .ok (.aload_n 0, 1) := by decide +kernel
theorem dL_weights_237 : decode cL_weights 237 = .ok (.invokevirtual 30, 3) := by decide +kernel
theorem dL_weights_240 : decode cL_weights 240 = .ok (.bipush 8, 2) := by decide +kernel
theorem dL_weights_242 : decode cL_weights 242 = .ok (.if_icmp .ne 132, 3) := by decide +kernel
theorem dL_weights_245 : decode cL_weights 245 = .ok (.aload_n 0, 1) := by decide +kernel
theorem dL_weights_246 : decode cL_weights 246 = .ok (.invokevirtual 30, 3) := by decide +kernel
theorem dL_weights_249 : decode cL_weights 249 = .ok (.iconst 3, 1) := by decide +kernel
theorem dL_weights_250 : decode cL_weights 250 = .ok (.if_icmp .ne 124, 3) := by decide +kernel
theorem dL_weights_253 : decode cL_weights 253 = .ok (.aload_n 0, 1) := by decide +kernel
theorem dL_weights_254 : decode cL_weights 254 = .ok (.invokevirtual 30, 3) := by decide +kernel
theorem dL_weights_257 : decode cL_weights 257 = .ok (.iconst 5, 1) := by decide +kernel
theorem dL_weights_258 : decode cL_weights 258 = .ok (.if_icmp .ne 116, 3) := by decide +kernel
theorem dL_weights_261 : decode cL_weights 261 = .ok (.aload_n 0, 1) := by decide +kernel
theorem dL_weights_262 : decode cL_weights 262 = .ok (.iconst 5, 1) := by decide +kernel
theorem dL_weights_263 : decode cL_weights 263 = .ok (.iconst 0, 1) := by decide +kernel
theorem dL_weights_264 : decode cL_weights 264 = .ok (.iconst 0, 1) := by decide +kernel
theorem dL_weights_265 : decode cL_weights 265 = .ok (.iconst 0, 1) := by decide +kernel
theorem dL_weights_266 : decode cL_weights 266 = .ok (.iconst 0, 1) := by decide +kernel
theorem dL_weights_267 : decode cL_weights 267 = .ok (.invokestatic 97, 3) := by decide +kernel
theorem dL_weights_270 : decode cL_weights 270 = .ok (.bipush (-13), 2) := by decide +kernel
theorem dL_weights_272 : decode cL_weights 272 = .ok (.if_icmp .ne 102, 3) := by decide +kernel
theorem dL_weights_275 : decode cL_weights 275 = .ok (.aload_n 0, 1) := by decide +kernel
theorem dL_weights_276 : decode cL_weights 276 = .ok (.iconst 1, 1) := by decide +kernel
theorem dL_weights_277 : decode cL_weights 277 = .ok (.invokevirtual 27, 3) := by decide +kernel
theorem dL_weights_280 : decode cL_weights 280 = .ok (.iconst 2, 1) := by decide +kernel
theorem dL_weights_281 : decode cL_weights 281 = .ok (.if_icmp .ne 93, 3) := by decide +kernel
theorem dL_weights_284 : decode cL_weights 284 = .ok (.aload_n 0, 1) := by decide +kernel
theorem dL_weights_285 : decode cL_weights 285 = .ok (.iconst 1, 1) := by decide +kernel
theorem dL_weights_286 : decode cL_weights 286 = .ok (.invokevirtual 27, 3) := by decide +kernel
theorem dL_weights_289 : decode cL_weights 289 = .ok (.iconst 3, 1) := by decide +kernel
theorem dL_weights_290 : decode cL_weights 290 = .ok (.if_icmp .ne 84, 3) := by decide +kernel
theorem dL_weights_293 : decode cL_weights 293 = .ok (.aload_n 0, 1) := by decide +kernel
theorem dL_weights_294 : decode cL_weights 294 = .ok (.iconst 2, 1) := by decide +kernel
theorem dL_weights_295 : decode cL_weights 295 = .ok (.iconst 0, 1) := by decide +kernel
theorem dL_weights_296 : decode cL_weights 296 = .ok (.invokevirtual 67, 3) := by decide +kernel
theorem dL_weights_299 : decode cL_weights 299 = .ok (.iconst 5, 1) := by decide +kernel
theorem dL_weights_300 : decode cL_weights 300 = .ok (.if_icmp .ne 74, 3) := by decide +kernel
theorem dL_weights_303 : decode cL_weights 303 = .ok (.aload_n 0, 1) := by decide +kernel
theorem dL_weights_304 : decode cL_weights 304 = .ok (.iconst 2, 1) := by decide +kernel
theorem dL_weights_305 : decode cL_weights 305 = .ok (.iconst 0, 1) := by decide +kernel
theorem dL_weights_306 : decode cL_weights 306 = .ok (.invokevirtual 70, 3) := by decide +kernel
theorem dL_weights_309 : decode cL_weights 309 = .ok (.iconst 1, 1) := by decide +kernel
theorem dL_weights_310 : decode cL_weights 310 = .ok (.if_icmp .ne 64, 3) := by decide +kernel
theorem dL_weights_313 : decode cL_weights 313 = .ok (.aload_n 0, 1) := by decide +kernel
theorem dL_weights_314 : decode cL_weights 314 = .ok (.iconst 1, 1) := by decide +kernel
theorem dL_weights_315 : decode cL_weights 315 = .ok (.invokevirtual 27, 3) := by decide +kernel
theorem dL_weights_318 : decode cL_weights 318 = .ok (.iconst 4, 1) := by decide +kernel
theorem dL_weights_319 : decode cL_weights 319 = .ok (.if_icmp .ne 55, 3) := by decide +kernel
theorem dL_weights_322 : decode cL_weights 322 = .ok (.aload_n 0, 1) := by decide +kernel
theorem dL_weights_323 : decode cL_weights 323 = .ok (.iconst 3, 1) := by decide +kernel
theorem dL_weights_324 : decode cL_weights 324 = .ok (.iconst 0, 1) := by decide +kernel
theorem dL_weights_325 : decode cL_weights 325 = .ok (.invokevirtual 67, 3) := by decide +kernel
theorem dL_weights_328 : decode cL_weights 328 = .ok (.bipush 6, 2) := by decide +kernel
theorem dL_weights_330 : decode cL_weights 330 = .ok (.if_icmp .ne 44, 3) := by decide +kernel
theorem dL_weights_333 : decode cL_weights 333 = .ok (.aload_n 0, 1) := by decide +kernel
theorem dL_weights_334 : decode cL_weights 334 = .ok (.iconst 3, 1) := by decide +kernel
theorem dL_weights_335 : decode cL_weights 335 = .ok (.iconst 0, 1) := by decide +kernel
theorem dL_weights_336 : decode cL_weights 336 = .ok (.invokevirtual 70, 3) := by decide +kernel
theorem dL_weights_339 : decode cL_weights 339 = .ok (.iconst 1, 1) := by decide +kernel
theorem dL_weights_340 : decode cL_weights 340 = .ok (.if_icmp .ne 34, 3) := by decide +kernel
theorem dL_weights_343 : decode cL_weights 343 = .ok (.aload_n 0, 1) := by decide +kernel
theorem dL_weights_344 : decode cL_weights 344 = .ok (.iconst 3, 1) := by decide +kernel
theorem dL_weights_345 : decode cL_weights 345 = .ok (.iconst 1, 1) := by decide +kernel
theorem dL_weights_346 : decode cL_weights 346 = .ok (.invokevirtual 70, 3) := by decide +kernel
theorem dL_weights_349 : decode cL_weights 349 = .ok (.iconst 2, 1) := by decide +kernel
theorem dL_weights_350 : decode cL_weights 350 = .ok (.if_icmp .ne 24, 3) := by decide +kernel
theorem dL_weights_353 : decode cL_weights 353 = .ok (.aload_n 0, 1) := by decide +kernel
theorem dL_weights_354 : decode cL_weights 354 = .ok (.iconst 2, 1) := by decide +kernel
theorem dL_weights_355 : decode cL_weights 355 = .ok (.iconst 0, 1) := by decide +kernel
theorem dL_weights_356 : decode cL_weights 356 = .ok (.invokevirtual 67, 3) := by decide +kernel
theorem dL_weights_359 : decode cL_weights 359 = .ok (.bipush 8, 2) := by decide +kernel
theorem dL_weights_361 : decode cL_weights 361 = .ok (.if_icmp .ne 13, 3) := by decide +kernel
theorem dL_weights_364 : decode cL_weights 364 = .ok (.aload_n 0, 1) := by decide +kernel
theorem dL_weights_365 : decode cL_weights 365 = .ok (.iconst 2, 1) := by decide +kernel
theorem dL_weights_366 : decode cL_weights 366 = .ok (.iconst 0, 1) := by decide +kernel
theorem dL_weights_367 : decode cL_weights 367 = .ok (.invokevirtual 70, 3) := by decide +kernel
theorem dL_weights_370 : decode cL_weights 370 = .ok (.iconst 2, 1) := by decide +kernel
theorem dL_weights_371 : decode cL_weights 371 = .ok (.if_icmp .eq 5, 3) := by decide +kernel
theorem dL_weights_374 : decode cL_weights 374 = .ok (.iconst 0, 1) := by decide +kernel
theorem dL_weights_375 : decode cL_weights 375 = .ok (.ireturn, 1) := by decide +kernel
theorem dL_weights_376 : decode cL_weights 376 = .ok (.iconst 4, 1) := by decide +kernel
theorem dL_weights_377 : decode cL_weights 377 = .ok (.istore_n 1, 1) := by decide +kernel
theorem dL_weights_378 : decode cL_weights 378 = .ok (.iload_n 1, 1) := by decide +kernel
theorem dL_weights_379 : decode cL_weights 379 = .ok (.bipush 10, 2) := by decide +kernel
theorem dL_weights_381 : decode cL_weights 381 = .ok (.if_icmp .ge 23, 3) := by decide +kernel
theorem dL_weights_384 : decode cL_weights 384 = .ok (.aload_n 0, 1) := by decide +kernel
theorem dL_weights_385 : decode cL_weights 385 = .ok (.bipush 99, 2) := by decide +kernel
theorem dL_weights_387 : decode cL_weights 387 = .ok (.invokevirtual 27, 3) := by decide +kernel
theorem dL_weights_390 : decode cL_weights 390 = .ok (.iload_n 1, 1) := by decide +kernel
theorem dL_weights_391 : decode cL_weights 391 = .ok (.iconst 1, 1) := by decide +kernel
theorem dL_weights_392 : decode cL_weights 392 = .ok (.iadd, 1) := by decide +kernel
theorem dL_weights_393 : decode cL_weights 393 = .ok (.if_icmp .eq 5, 3) := by decide +kernel
theorem dL_weights_396 : decode cL_weights 396 = .ok (.iconst 0, 1) := by decide +kernel
theorem dL_weights_397 : decode cL_weights 397 = .ok (.ireturn, 1) := by decide +kernel
theorem dL_weights_398 : decode cL_weights 398 = .ok (.iinc 1 1, 3) := by decide +kernel
theorem dL_weights_401 : decode cL_weights 401 = .ok (.goto (-23), 3) := by decide +kernel
theorem dL_weights_404 : decode cL_weights 404 = .ok (.aload_n 0, 1) := by decide +kernel
theorem dL_weights_405 : decode cL_weights 405 = .ok (.iconst 4, 1) := by decide +kernel
theorem dL_weights_406 : decode cL_weights 406 = .ok (.iconst 1, 1) := by decide +kernel
theorem dL_weights_407 : decode cL_weights 407 = .ok (.iconst 0, 1) := by decide +kernel
theorem dL_weights_408 : decode cL_weights 408 = .ok (.iconst 0, 1) := by decide +kernel
theorem dL_weights_409 : decode cL_weights 409 = .ok (.iconst 0, 1) := by decide +kernel
theorem dL_weights_410 : decode cL_weights 410 = .ok (.invokestatic 97, 3) := by decide +kernel
theorem dL_weights_413 : decode cL_weights 413 = .ok (.bipush (-13), 2) := by decide +kernel
theorem dL_weights_415 : decode cL_weights 415 = .ok (.if_icmp .ne 96, 3) := by decide +kernel
theorem dL_weights_418 : decode cL_weights 418 = .ok (.aload_n 0, 1) := by decide +kernel
theorem dL_weights_419 : decode cL_weights 419 = .ok (.bipush 10, 2) := by decide +kernel
theorem dL_weights_421 : decode cL_weights 421 = .ok (.iconst 0, 1) := by decide +kernel
theorem dL_weights_422 : decode cL_weights 422 = .ok (.invokevirtual 67, 3) := by decide +kernel
theorem dL_weights_425 : decode cL_weights 425 = .ok (.ldc 126, 2) := by decide +kernel
theorem dL_weights_427 : decode cL_weights 427 = .ok (.if_icmp .ne 84, 3) := by decide +kernel
theorem dL_weights_430 : decode cL_weights 430 = .ok (.aload_n 0, 1) := by decide +kernel
theorem dL_weights_431 : decode cL_weights 431 = .ok (.iconst 1, 1) := by decide +kernel
theorem dL_weights_432 : decode cL_weights 432 = .ok (.iconst 0, 1) := by decide +kernel
theorem dL_weights_433 : decode cL_weights 433 = .ok (.invokevirtual 67, 3) := by decide +kernel
theorem dL_weights_436 : decode cL_weights 436 = .ok (.ldc 127, 2) := by decide +kernel
theorem dL_weights_438 : decode cL_weights 438 = .ok (.if_icmp .ne 73, 3) := by decide +kernel
theorem dL_weights_441 : decode cL_weights 441 = .ok (.aload_n 0, 1) := by decide +kernel
theorem dL_weights_442 : decode cL_weights 442 = .ok (.iconst 3, 1) := by decide +kernel
theorem dL_weights_443 : decode cL_weights 443 = .ok (.invokevirtual 61, 3) := by decide +kernel
theorem dL_weights_446 : decode cL_weights 446 = .ok (.sipush 598, 3) := by decide +kernel
theorem dL_weights_449 : decode cL_weights 449 = .ok (.if_icmp .ne 62, 3) := by decide +kernel
theorem dL_weights_452 : decode cL_weights 452 = .ok (.aload_n 0, 1) := by decide +kernel
theorem dL_weights_453 : decode cL_weights 453 = .ok (.ldc 101, 2) := by decide +kernel
theorem dL_weights_455 : decode cL_weights 455 = .ok (.invokevirtual 73, 3) := by decide +kernel
theorem dL_weights_458 : decode cL_weights 458 = .ok (.iconst 1, 1) := by decide +kernel
theorem dL_weights_459 : decode cL_weights 459 = .ok (.if_icmp .ne 52, 3) := by decide +kernel
theorem dL_weights_462 : decode cL_weights 462 = .ok (.aload_n 0, 1) := by decide +kernel
theorem dL_weights_463 : decode cL_weights 463 = .ok (.iconst 1, 1) := by decide +kernel
theorem dL_weights_464 : decode cL_weights 464 = .ok (.invokevirtual 73, 3) := by decide +kernel
theorem dL_weights_467 : decode cL_weights 467 = .ok (.iconst (-1), 1) := by decide +kernel
theorem dL_weights_468 : decode cL_weights 468 = .ok (.if_icmp .ne 43, 3) := by decide +kernel
theorem dL_weights_471 : decode cL_weights 471 = .ok (.aload_n 0, 1) := by decide +kernel
theorem dL_weights_472 : decode cL_weights 472 = .ok (.bipush 10, 2) := by decide +kernel
theorem dL_weights_474 : decode cL_weights 474 = .ok (.bipush 8, 2) := by decide +kernel
theorem dL_weights_476 : decode cL_weights 476 = .ok (.invokevirtual 70, 3) := by decide +kernel
theorem dL_weights_479 : decode cL_weights 479 = .ok (.bipush 9, 2) := by decide +kernel
theorem dL_weights_481 : decode cL_weights 481 = .ok (.if_icmp .ne 30, 3) := by decide +kernel
theorem dL_weights_484 : decode cL_weights 484 = .ok (.aload_n 0, 1) := by decide +kernel
theorem dL_weights_485 : decode cL_weights 485 = .ok (.bipush 7, 2) := by decide +kernel
theorem dL_weights_487 : decode cL_weights 487 = .ok (.iconst 0, 1) := by decide +kernel
theorem dL_weights_488 : decode cL_weights 488 = .ok (.invokevirtual 70, 3) := by decide +kernel
theorem dL_weights_491 : decode cL_weights 491 = .ok (.iconst 4, 1) := by decide +kernel
theorem dL_weights_492 : decode cL_weights 492 = .ok (.if_icmp .ne 19, 3) := by decide +kernel
theorem dL_weights_495 : decode cL_weights 495 = .ok (.aload_n 0, 1) := by decide +kernel
theorem dL_weights_496 : decode cL_weights 496 = .ok (.bipush 7, 2) := by decide +kernel
theorem dL_weights_498 : decode cL_weights 498 = .ok (.iconst 0, 1) := by decide +kernel
theorem dL_weights_499 : decode cL_weights 499 = .ok (.invokevirtual 67, 3) := by decide +kernel
theorem dL_weights_502 : decode cL_weights 502 = .ok (.ldc 128, 2) := by decide +kernel
theorem dL_weights_504 : decode cL_weights 504 = .ok (.if_icmp .ne 7, 3) := by decide +kernel
theorem dL_weights_507 : decode cL_weights 507 = .ok (.iconst 1, 1) := by decide +kernel
theorem dL_weights_508 : decode cL_weights 508 = .ok (.goto 4, 3) := by decide +kernel
theorem dL_weights_511 : decode cL_weights 511 = .ok (.iconst 0, 1) := by decide +kernel
theorem dL_weights_512 : decode cL_weights 512 = .ok (.ireturn, 1) := by decide +kernel
theorem dL_types_0 : decode cL_types 0 = .ok (.iconst 1, 1) := by decide +kernel
theorem dL_types_1 : decode cL_types 1 = .ok (.istore_n 3, 1) := by decide +kernel
theorem dL_types_2 : decode cL_types 2 = .ok (.bipush 56, 2) := by decide +kernel
theorem dL_types_4 : decode cL_types 4 = .ok (.istore 4, 2) := by decide +kernel
theorem dL_types_6 : decode cL_types 6 = .ok (.iload 4, 2) := by decide +kernel
theorem dL_types_8 : decode cL_types 8 = .ok (.ifCond .lt 44, 3) := by decide +kernel
theorem dL_types_11 : decode cL_types 11 = .ok (.lload_n 1, 1) := by decide +kernel
theorem dL_types_12 : decode cL_types 12 = .ok (.iload 4, 2) := by decide +kernel
theorem dL_types_14 : decode cL_types 14 = .ok (.lshr, 1) := by decide +kernel
theorem dL_types_15 : decode cL_types 15 = .ok (.ldc2_w 129, 3) := by decide +kernel
theorem dL_types_18 : decode cL_types 18 = .ok (.land, 1) := by decide +kernel
theorem dL_types_19 : decode cL_types 19 = .ok (.l2i, 1) := by decide +kernel
theorem dL_types_20 : decode cL_types 20 = .ok (.istore 5, 2) := by decide +kernel
theorem dL_types_22 : decode cL_types 22 = .ok (.iload_n 3, 1) := by decide +kernel
theorem dL_types_23 : decode cL_types 23 = .ok (.ifCond .eq 21, 3) := by decide +kernel
theorem dL_types_26 : decode cL_types 26 = .ok (.iload 5, 2) := by decide +kernel
theorem dL_types_28 : decode cL_types 28 = .ok (.ifCond .eq 12, 3) := by decide +kernel
theorem dL_types_31 : decode cL_types 31 = .ok (.aload_n 0, 1) := by decide +kernel
theorem dL_types_32 : decode cL_types 32 = .ok (.iload 5, 2) := by decide +kernel
theorem dL_types_34 : decode cL_types 34 = .ok (.invokevirtual 34, 3) := by decide +kernel
theorem dL_types_37 : decode cL_types 37 = .ok (.ifCond .le 7, 3) := by decide +kernel
theorem dL_types_40 : decode cL_types 40 = .ok (.iconst 1, 1) := by decide +kernel
theorem dL_types_41 : decode cL_types 41 = .ok (.goto 4, 3) := by decide +kernel
theorem dL_types_44 : decode cL_types 44 = .ok (.iconst 0, 1) := by decide +kernel
theorem dL_types_45 : decode cL_types 45 = .ok (.istore_n 3, 1) := by decide +kernel
theorem dL_types_46 : decode cL_types 46 = .ok (.iinc 4 (-8), 3) := by decide +kernel
theorem dL_types_49 : decode cL_types 49 = .ok (.goto (-43), 3) := by decide +kernel
theorem dL_types_52 : decode cL_types 52 = .ok (.iload_n 3, 1) := by decide +kernel
theorem dL_types_53 : decode cL_types 53 = .ok (.ireturn, 1) := by decide +kernel
theorem dL_isError_0 : decode cL_isError 0 = .ok (.aload_n 0, 1) := by decide +kernel
theorem dL_isError_1 : decode cL_isError 1 = .ok (.invokevirtual 131, 3) := by decide +kernel
theorem dL_isError_4 : decode cL_isError 4 = .ok (.ifCond .lt 32, 3) := by decide +kernel
theorem dL_isError_7 : decode cL_isError 7 = .ok (.aload_n 0, 1) := by decide +kernel
theorem dL_isError_8 : decode cL_isError 8 = .ok (.lload_n 1, 1) := by decide +kernel
theorem dL_isError_9 : decode cL_isError 9 = .ok (.invokestatic 134, 3) := by decide +kernel
theorem dL_isError_12 : decode cL_isError 12 = .ok (.ifCond .eq 24, 3) := by decide +kernel
theorem dL_isError_15 : decode cL_isError 15 = .ok (.aload_n 0, 1) := by decide +kernel
theorem dL_isError_16 : decode cL_isError 16 = .ok (.lload_n 3, 1) := by decide +kernel
theorem dL_isError_17 : decode cL_isError 17 = .ok (.invokestatic 134, 3) := by decide +kernel
theorem dL_isError_20 : decode cL_isError 20 = .ok (.ifCond .eq 16, 3) := by decide +kernel
theorem dL_isError_23 : decode cL_isError 23 = .ok (.aload_n 0, 1) := by decide +kernel
theorem dL_isError_24 : decode cL_isError 24 = .ok (.invokevirtual 138, 3) := by decide +kernel
theorem dL_isError_27 : decode cL_isError 27 = .ok (.iload 5, 2) := by decide +kernel
theorem dL_isError_29 : decode cL_isError 29 = .ok (.if_icmp .ne 7, 3) := by decide +kernel
theorem dL_isError_32 : decode cL_isError 32 = .ok (.iconst 1, 1) := by decide +kernel
theorem dL_isError_33 : decode cL_isError 33 = .ok (.goto 4, 3) := by decide +kernel
theorem dL_isError_36 : decode cL_isError 36 = .ok (.iconst 0, 1) := by decide +kernel
theorem dL_isError_37 : decode cL_isError 37 = .ok (.ireturn, 1) := by decide +kernel
theorem dL_texts_0 : decode cL_texts 0 = .ok (.new 10, 3) := by decide +kernel
theorem dL_texts_3 : decode cL_texts 3 = .ok (.dup, 1) := by decide +kernel
theorem dL_texts_4 : decode cL_texts 4 = .ok (.invokespecial 110, 3) := by decide +kernel
theorem dL_texts_7 : decode cL_texts 7 = .ok (.astore_n 0, 1) := by decide +kernel
theorem dL_texts_8 : decode cL_texts 8 = .ok (.aload_n 0, 1) := by decide +kernel
theorem dL_texts_9 : decode cL_texts 9 = .ok (.ldc2_w 141, 3) := by decide +kernel
theorem dL_texts_12 : decode cL_texts 12 = .ok (.lconst 0, 1) := by decide +kernel
theorem dL_texts_13 : decode cL_texts 13 = .ok (.iconst 5, 1) := by decide +kernel
theorem dL_texts_14 : decode cL_texts 14 = .ok (.invokestatic 143, 3) := by decide +kernel
theorem dL_texts_17 : decode cL_texts 17 = .ok (.ifCond .eq 113, 3) := by decide +kernel
theorem dL_texts_20 : decode cL_texts 20 = .ok (.aload_n 0, 1) := by decide +kernel
theorem dL_texts_21 : decode cL_texts 21 = .ok (.ldc2_w 147, 3) := by decide +kernel
theorem dL_texts_24 : decode cL_texts 24 = .ok (.lconst 0, 1) := by decide +kernel
theorem dL_texts_25 : decode cL_texts 25 = .ok (.iconst 5, 1) := by decide +kernel
theorem dL_texts_26 : decode cL_texts 26 = .ok (.invokestatic 143, 3) := by decide +kernel
theorem dL_texts_29 : decode cL_texts 29 = .ok (.ifCond .eq 101, 3) := by decide +kernel
theorem dL_texts_32 : decode cL_texts 32 = .ok (.aload_n 0, 1) := by decide +kernel
theorem dL_texts_33 : decode cL_texts 33 = .ok (.ldc2_w 149, 3) := by decide +kernel
theorem dL_texts_36 : decode cL_texts 36 = .ok (.lconst 0, 1) := by decide +kernel
theorem dL_texts_37 : decode cL_texts 37 = .ok (.bipush 7, 2) := by decide +kernel
theorem dL_texts_39 : decode cL_texts 39 = .ok (.invokestatic 143, 3) := by decide +kernel
theorem dL_texts_42 : decode cL_texts 42 = .ok (.ifCond .eq 88, 3) := by decide +kernel
theorem dL_texts_45 : decode cL_texts 45 = .ok (.aload_n 0, 1) := by decide +kernel
theorem dL_texts_46 : decode cL_texts 46 = .ok (.ldc2_w 151, 3) := by decide +kernel
theorem dL_texts_49 : decode cL_texts 49 = .ok (.lconst 0, 1) := by decide +kernel
theorem dL_texts_50 : decode cL_texts 50 = .ok (.iconst 3, 1) := by decide +kernel
theorem dL_texts_51 : decode cL_texts 51 = .ok (.invokestatic 143, 3) := by decide +kernel
theorem dL_texts_54 : decode cL_texts 54 = .ok (.ifCond .eq 76, 3) := by decide +kernel
theorem dL_texts_57 : decode cL_texts 57 = .ok (.aload_n 0, 1) := by decide +kernel
theorem dL_texts_58 : decode cL_texts 58 = .ok (.ldc2_w 153, 3) := by decide +kernel
theorem dL_texts_61 : decode cL_texts 61 = .ok (.lconst 0, 1) := by decide +kernel
theorem dL_texts_62 : decode cL_texts 62 = .ok (.iconst 1, 1) := by decide +kernel
theorem dL_texts_63 : decode cL_texts 63 = .ok (.invokestatic 143, 3) := by decide +kernel
theorem dL_texts_66 : decode cL_texts 66 = .ok (.ifCond .eq 64, 3) := by decide +kernel
theorem dL_texts_69 : decode cL_texts 69 = .ok (.aload_n 0, 1) := by decide +kernel
theorem dL_texts_70 : decode cL_texts 70 = .ok (.ldc2_w 155, 3) := by decide +kernel
theorem dL_texts_73 : decode cL_texts 73 = .ok (.lconst 0, 1) := by decide +kernel
theorem dL_texts_74 : decode cL_texts 74 = .ok (.iconst 4, 1) := by decide +kernel
theorem dL_texts_75 : decode cL_texts 75 = .ok (.invokestatic 143, 3) := by decide +kernel
theorem dL_texts_78 : decode cL_texts 78 = .ok (.ifCond .eq 52, 3) := by decide +kernel
theorem dL_texts_81 : decode cL_texts 81 = .ok (.aload_n 0, 1) := by decide +kernel
theorem dL_texts_82 : decode cL_texts 82 = .ok (.lconst 0, 1) := by decide +kernel
theorem dL_texts_83 : decode cL_texts 83 = .ok (.lconst 0, 1) := by decide +kernel
theorem dL_texts_84 : decode cL_texts 84 = .ok (.iconst 0, 1) := by decide +kernel
theorem dL_texts_85 : decode cL_texts 85 = .ok (.invokestatic 143, 3) := by decide +kernel
theorem dL_texts_88 : decode cL_texts 88 = .ok (.ifCond .eq 42, 3) := by decide +kernel
theorem dL_texts_91 : decode cL_texts 91 = .ok (.aload_n 0, 1) := by decide +kernel
theorem dL_texts_92 : decode cL_texts 92 = .ok (.ldc2_w 157, 3) := by decide +kernel
theorem dL_texts_95 : decode cL_texts 95 = .ok (.lconst 0, 1) := by decide +kernel
theorem dL_texts_96 : decode cL_texts 96 = .ok (.iconst 2, 1) := by decide +kernel
theorem dL_texts_97 : decode cL_texts 97 = .ok (.invokestatic 143, 3) := by decide +kernel
theorem dL_texts_100 : decode cL_texts 100 = .ok (.ifCond .eq 30, 3) := by decide +kernel
theorem dL_texts_103 : decode cL_texts 103 = .ok (.aload_n 0, 1) := by decide +kernel
theorem dL_texts_104 : decode cL_texts 104 = .ok (.ldc2_w 159, 3) := by decide +kernel
theorem dL_texts_107 : decode cL_texts 107 = .ok (.lconst 0, 1) := by decide +kernel
theorem dL_texts_108 : decode cL_texts 108 = .ok (.iconst 0, 1) := by decide +kernel
theorem dL_texts_109 : decode cL_texts 109 = .ok (.invokestatic 143, 3) := by decide +kernel
theorem dL_texts_112 : decode cL_texts 112 = .ok (.ifCond .eq 18, 3) := by decide +kernel
theorem dL_texts_115 : decode cL_texts 115 = .ok (.aload_n 0, 1) := by decide +kernel
theorem dL_texts_116 : decode cL_texts 116 = .ok (.ldc2_w 161, 3) := by decide +kernel
theorem dL_texts_119 : decode cL_texts 119 = .ok (.ldc2_w 163, 3) := by decide +kernel
theorem dL_texts_122 : decode cL_texts 122 = .ok (.bipush 9, 2) := by decide +kernel
theorem dL_texts_124 : decode cL_texts 124 = .ok (.invokestatic 143, 3) := by decide +kernel
theorem dL_texts_127 : decode cL_texts 127 = .ok (.ifCond .ne 5, 3) := by decide +kernel
theorem dL_texts_130 : decode cL_texts 130 = .ok (.iconst 0, 1) := by decide +kernel
theorem dL_texts_131 : decode cL_texts 131 = .ok (.ireturn, 1) := by decide +kernel
theorem dL_texts_132 : decode cL_texts 132 = .ok (.aload_n 0, 1) := by decide +kernel
theorem dL_texts_133 : decode cL_texts 133 = .ok (.ldc2_w 165, 3) := by decide +kernel
theorem dL_texts_136 : decode cL_texts 136 = .ok (.lconst 0, 1) := by decide +kernel
theorem dL_texts_137 : decode cL_texts 137 = .ok (.iconst 2, 1) := by decide +kernel
theorem dL_texts_138 : decode cL_texts 138 = .ok (.invokestatic 143, 3) := by decide +kernel
theorem dL_texts_141 : decode cL_texts 141 = .ok (.ifCond .eq 109, 3) := by decide +kernel
theorem dL_texts_144 : decode cL_texts 144 = .ok (.aload_n 0, 1) := by decide +kernel
theorem dL_texts_145 : decode cL_texts 145 = .ok (.ldc2_w 167, 3) := by decide +kernel
theorem dL_texts_148 : decode cL_texts 148 = .ok (.lconst 0, 1) := by decide +kernel
theorem dL_texts_149 : decode cL_texts 149 = .ok (.iconst 2, 1) := by decide +kernel
theorem dL_texts_150 : decode cL_texts 150 = .ok (.invokestatic 143, 3) := by decide +kernel
theorem dL_texts_153 : decode cL_texts 153 = .ok (.ifCond .eq 97, 3) := by decide +kernel
theorem dL_texts_156 : decode cL_texts 156 = .ok (.aload_n 0, 1) := by decide +kernel
theorem dL_texts_157 : decode cL_texts 157 = .ok (.ldc2_w 169, 3) := by decide +kernel
theorem dL_texts_160 : decode cL_texts 160 = .ok (.lconst 0, 1) := by decide +kernel
theorem dL_texts_161 : decode cL_texts 161 = .ok (.bipush 6, 2) := by decide +kernel
theorem dL_texts_163 : decode cL_texts 163 = .ok (.invokestatic 143, 3) := by decide +kernel
theorem dL_texts_166 : decode cL_texts 166 = .ok (.ifCond .eq 84, 3) := by decide +kernel
theorem dL_texts_169 : decode cL_texts 169 = .ok (.aload_n 0, 1) := by decide +kernel
theorem dL_texts_170 : decode cL_texts 170 = .ok (.ldc2_w 171, 3) := by decide +kernel
theorem dL_texts_173 : decode cL_texts 173 = .ok (.ldc2_w 173, 3) := by decide +kernel
theorem dL_texts_176 : decode cL_texts 176 = .ok (.bipush 9, 2) := by decide +kernel
theorem dL_texts_178 : decode cL_texts 178 = .ok (.invokestatic 143, 3) := by decide +kernel
theorem dL_texts_181 : decode cL_texts 181 = .ok (.ifCond .eq 69, 3) := by decide +kernel
theorem dL_texts_184 : decode cL_texts 184 = .ok (.aload_n 0, 1) := by decide +kernel
theorem dL_texts_185 : decode cL_texts 185 = .ok (.ldc2_w 175, 3) := by decide +kernel
theorem dL_texts_188 : decode cL_texts 188 = .ok (.lconst 0, 1) := by decide +kernel
theorem dL_texts_189 : decode cL_texts 189 = .ok (.iconst 0, 1) := by decide +kernel
theorem dL_texts_190 : decode cL_texts 190 = .ok (.invokestatic 143, 3) := by decide +kernel
theorem dL_texts_193 : decode cL_texts 193 = .ok (.ifCond .eq 57, 3) := by decide +kernel
theorem dL_texts_196 : decode cL_texts 196 = .ok (.aload_n 0, 1) := by decide +kernel
theorem dL_texts_197 : decode cL_texts 197 = .ok (.ldc2_w 177, 3) := by decide +kernel
theorem dL_texts_200 : decode cL_texts 200 = .ok (.lconst 0, 1) := by decide +kernel
theorem dL_texts_201 : decode cL_texts 201 = .ok (.iconst 1, 1) := by decide +kernel
theorem dL_texts_202 : decode cL_texts 202 = .ok (.invokestatic 143, 3) := by decide +kernel
theorem dL_texts_205 : decode cL_texts 205 = .ok (.ifCond .eq 45, 3) := by decide +kernel
theorem dL_texts_208 : decode cL_texts 208 = .ok (.aload_n 0, 1) := by decide +kernel
theorem dL_texts_209 : decode cL_texts 209 = .ok (.ldc2_w 179, 3) := by decide +kernel
theorem dL_texts_212 : decode cL_texts 212 = .ok (.lconst 0, 1) := by decide +kernel
theorem dL_texts_213 : decode cL_texts 213 = .ok (.iconst 5, 1) := by decide +kernel
theorem dL_texts_214 : decode cL_texts 214 = .ok (.invokestatic 143, 3) := by decide +kernel
theorem dL_texts_217 : decode cL_texts 217 = .ok (.ifCond .eq 33, 3) := by decide +kernel
theorem dL_texts_220 : decode cL_texts 220 = .ok (.aload_n 0, 1) := by decide +kernel
theorem dL_texts_221 : decode cL_texts 221 = .ok (.ldc2_w 181, 3) := by decide +kernel
theorem dL_texts_224 : decode cL_texts 224 = .ok (.ldc2_w 183, 3) := by decide +kernel
theorem dL_texts_227 : decode cL_texts 227 = .ok (.bipush 10, 2) := by decide +kernel
theorem dL_texts_229 : decode cL_texts 229 = .ok (.invokestatic 143, 3) := by decide +kernel
theorem dL_texts_232 : decode cL_texts 232 = .ok (.ifCond .eq 18, 3) := by decide +kernel
theorem dL_texts_235 : decode cL_texts 235 = .ok (.aload_n 0, 1) := by decide +kernel
theorem dL_texts_236 : decode cL_texts 236 = .ok (.ldc2_w 185, 3) := by decide +kernel
theorem dL_texts_239 : decode cL_texts 239 = .ok (.ldc2_w 187, 3) := by decide +kernel
theorem dL_texts_242 : decode cL_texts 242 = .ok (.bipush 15, 2) := by decide +kernel
theorem dL_texts_244 : decode cL_texts 244 = .ok (.invokestatic 143, 3) := by decide +kernel
theorem dL_texts_247 : decode cL_texts 247 = .ok (.ifCond .ne 5, 3) := by decide +kernel
theorem dL_texts_250 : decode cL_texts 250 = .ok (.iconst 0, 1) := by decide +kernel
theorem dL_texts_251 : decode cL_texts 251 = .ok (.ireturn, 1) := by decide +kernel
theorem dL_texts_252 : decode cL_texts 252 = .ok (.aload_n 0, 1) := by decide +kernel
theorem dL_texts_253 : decode cL_texts 253 = .ok (.ldc2_w 185, 3) := by decide +kernel
theorem dL_texts_256 : decode cL_texts 256 = .ok (.ldc2_w 185, 3) := by decide +kernel
theorem dL_texts_259 : decode cL_texts 259 = .ok (.bipush 16, 2) := by decide +kernel
theorem dL_texts_261 : decode cL_texts 261 = .ok (.invokestatic 143, 3) := by decide +kernel
theorem dL_texts_264 : decode cL_texts 264 = .ok (.ifCond .eq 108, 3) := by decide +kernel
theorem dL_texts_267 : decode cL_texts 267 = .ok (.aload_n 0, 1) := by decide +kernel
theorem dL_texts_268 : decode cL_texts 268 = .ok (.ldc2_w 189, 3) := by decide +kernel
theorem dL_texts_271 : decode cL_texts 271 = .ok (.invokestatic 134, 3) := by decide +kernel
theorem dL_texts_274 : decode cL_texts 274 = .ok (.ifCond .eq 98, 3) := by decide +kernel
theorem dL_texts_277 : decode cL_texts 277 = .ok (.aload_n 0, 1) := by decide +kernel
theorem dL_texts_278 : decode cL_texts 278 = .ok (.invokevirtual 138, 3) := by decide +kernel
theorem dL_texts_281 : decode cL_texts 281 = .ok (.bipush 19, 2) := by decide +kernel
theorem dL_texts_283 : decode cL_texts 283 = .ok (.if_icmp .ne 89, 3) := by decide +kernel
theorem dL_texts_286 : decode cL_texts 286 = .ok (.aload_n 0, 1) := by decide +kernel
theorem dL_texts_287 : decode cL_texts 287 = .ok (.invokevirtual 131, 3) := by decide +kernel
theorem dL_texts_290 : decode cL_texts 290 = .ok (.bipush 21, 2) := by decide +kernel
theorem dL_texts_292 : decode cL_texts 292 = .ok (.if_icmp .ne 80, 3) := by decide +kernel
theorem dL_texts_295 : decode cL_texts 295 = .ok (.aload_n 0, 1) := by decide +kernel
theorem dL_texts_296 : decode cL_texts 296 = .ok (.ldc2_w 191, 3) := by decide +kernel
theorem dL_texts_299 : decode cL_texts 299 = .ok (.ldc2_w 191, 3) := by decide +kernel
theorem dL_texts_302 : decode cL_texts 302 = .ok (.bipush 16, 2) := by decide +kernel
theorem dL_texts_304 : decode cL_texts 304 = .ok (.invokestatic 143, 3) := by decide +kernel
theorem dL_texts_307 : decode cL_texts 307 = .ok (.ifCond .eq 65, 3) := by decide +kernel
theorem dL_texts_310 : decode cL_texts 310 = .ok (.aload_n 0, 1) := by decide +kernel
theorem dL_texts_311 : decode cL_texts 311 = .ok (.ldc2_w 193, 3) := by decide +kernel
theorem dL_texts_314 : decode cL_texts 314 = .ok (.invokestatic 134, 3) := by decide +kernel
theorem dL_texts_317 : decode cL_texts 317 = .ok (.ifCond .eq 55, 3) := by decide +kernel
theorem dL_texts_320 : decode cL_texts 320 = .ok (.aload_n 0, 1) := by decide +kernel
theorem dL_texts_321 : decode cL_texts 321 = .ok (.invokevirtual 138, 3) := by decide +kernel
theorem dL_texts_324 : decode cL_texts 324 = .ok (.bipush 19, 2) := by decide +kernel
theorem dL_texts_326 : decode cL_texts 326 = .ok (.if_icmp .ne 46, 3) := by decide +kernel
theorem dL_texts_329 : decode cL_texts 329 = .ok (.aload_n 0, 1) := by decide +kernel
theorem dL_texts_330 : decode cL_texts 330 = .ok (.ldc2_w 159, 3) := by decide +kernel
theorem dL_texts_333 : decode cL_texts 333 = .ok (.invokestatic 134, 3) := by decide +kernel
theorem dL_texts_336 : decode cL_texts 336 = .ok (.ifCond .eq 36, 3) := by decide +kernel
theorem dL_texts_339 : decode cL_texts 339 = .ok (.aload_n 0, 1) := by decide +kernel
theorem dL_texts_340 : decode cL_texts 340 = .ok (.invokevirtual 138, 3) := by decide +kernel
theorem dL_texts_343 : decode cL_texts 343 = .ok (.bipush 19, 2) := by decide +kernel
theorem dL_texts_345 : decode cL_texts 345 = .ok (.if_icmp .ne 27, 3) := by decide +kernel
theorem dL_texts_348 : decode cL_texts 348 = .ok (.aload_n 0, 1) := by decide +kernel
theorem dL_texts_349 : decode cL_texts 349 = .ok (.bipush 7, 2) := by decide +kernel
theorem dL_texts_351 : decode cL_texts 351 = .ok (.iconst 0, 1) := by decide +kernel
theorem dL_texts_352 : decode cL_texts 352 = .ok (.iconst 0, 1) := by decide +kernel
theorem dL_texts_353 : decode cL_texts 353 = .ok (.iconst 0, 1) := by decide +kernel
theorem dL_texts_354 : decode cL_texts 354 = .ok (.iconst 0, 1) := by decide +kernel
theorem dL_texts_355 : decode cL_texts 355 = .ok (.invokestatic 97, 3) := by decide +kernel
theorem dL_texts_358 : decode cL_texts 358 = .ok (.bipush (-12), 2) := by decide +kernel
theorem dL_texts_360 : decode cL_texts 360 = .ok (.if_icmp .ne 12, 3) := by decide +kernel
theorem dL_texts_363 : decode cL_texts 363 = .ok (.aload_n 0, 1) := by decide +kernel
theorem dL_texts_364 : decode cL_texts 364 = .ok (.invokevirtual 131, 3) := by decide +kernel
theorem dL_texts_367 : decode cL_texts 367 = .ok (.bipush 20, 2) := by decide +kernel
theorem dL_texts_369 : decode cL_texts 369 = .ok (.if_icmp .eq 5, 3) := by decide +kernel
theorem dL_texts_372 : decode cL_texts 372 = .ok (.iconst 0, 1) := by decide +kernel
theorem dL_texts_373 : decode cL_texts 373 = .ok (.ireturn, 1) := by decide +kernel
theorem dL_texts_374 : decode cL_texts 374 = .ok (.aload_n 0, 1) := by decide +kernel
theorem dL_texts_375 : decode cL_texts 375 = .ok (.ldc2_w 195, 3) := by decide +kernel
theorem dL_texts_378 : decode cL_texts 378 = .ok (.invokestatic 134, 3) := by decide +kernel
theorem dL_texts_381 : decode cL_texts 381 = .ok (.ifCond .eq 207, 3) := by decide +kernel
theorem dL_texts_384 : decode cL_texts 384 = .ok (.aload_n 0, 1) := by decide +kernel
theorem dL_texts_385 : decode cL_texts 385 = .ok (.iconst 3, 1) := by decide +kernel
theorem dL_texts_386 : decode cL_texts 386 = .ok (.iconst 3, 1) := by decide +kernel
theorem dL_texts_387 : decode cL_texts 387 = .ok (.bipush 77, 2) := by decide +kernel
theorem dL_texts_389 : decode cL_texts 389 = .ok (.invokevirtual 15, 3) := by decide +kernel
theorem dL_texts_392 : decode cL_texts 392 = .ok (.ifCond .ne 196, 3) := by decide +kernel
theorem dL_texts_395 : decode cL_texts 395 = .ok (.aload_n 0, 1) := by decide +kernel
theorem dL_texts_396 : decode cL_texts 396 = .ok (.invokevirtual 37, 3) := by decide +kernel
theorem dL_texts_399 : decode cL_texts 399 = .ok (.bipush 24, 2) := by decide +kernel
theorem dL_texts_401 : decode cL_texts 401 = .ok (.if_icmp .ne 187, 3) := by decide +kernel
theorem dL_texts_404 : decode cL_texts 404 = .ok (.aload_n 0, 1) := by decide +kernel
theorem dL_texts_405 : decode cL_texts 405 = .ok (.invokevirtual 131, 3) := by decide +kernel
theorem dL_texts_408 : decode cL_texts 408 = .ok (.ifCond .ne 180, 3) := by decide +kernel
theorem dL_texts_411 : decode cL_texts 411 = .ok (.aload_n 0, 1) := by decide +kernel
theorem dL_texts_412 : decode cL_texts 412 = .ok (.iconst 0, 1) := by decide +kernel
theorem dL_texts_413 : decode cL_texts 413 = .ok (.iconst 0, 1) := by decide +kernel
theorem dL_texts_414 : decode cL_texts 414 = .ok (.invokevirtual 49, 3) := by decide +kernel
theorem dL_texts_417 : decode cL_texts 417 = .ok (.iconst 5, 1) := by decide +kernel
theorem dL_texts_418 : decode cL_texts 418 = .ok (.if_icmp .ne 170, 3) := by decide +kernel
theorem dL_texts_421 : decode cL_texts 421 = .ok (.aload_n 0, 1) := by decide +kernel
theorem dL_texts_422 : decode cL_texts 422 = .ok (.iconst 1, 1) := by decide +kernel
theorem dL_texts_423 : decode cL_texts 423 = .ok (.iconst 1, 1) := by decide +kernel
theorem dL_texts_424 : decode cL_texts 424 = .ok (.invokevirtual 49, 3) := by decide +kernel
theorem dL_texts_427 : decode cL_texts 427 = .ok (.iconst 2, 1) := by decide +kernel
theorem dL_texts_428 : decode cL_texts 428 = .ok (.if_icmp .ne 160, 3) := by decide +kernel
theorem dL_texts_431 : decode cL_texts 431 = .ok (.aload_n 0, 1) := by decide +kernel
theorem dL_texts_432 : decode cL_texts 432 = .ok (.iconst 3, 1) := by decide +kernel
theorem dL_texts_433 : decode cL_texts 433 = .ok (.invokevirtual 58, 3) := by decide +kernel
theorem dL_texts_436 : decode cL_texts 436 = .ok (.iconst 1, 1) := by decide +kernel
theorem dL_texts_437 : decode cL_texts 437 = .ok (.if_icmp .ne 151, 3) := by decide +kernel
theorem dL_texts_440 : decode cL_texts 440 = .ok (.aload_n 0, 1) := by decide +kernel
theorem dL_texts_441 : decode cL_texts 441 = .ok (.iconst 4, 1) := by decide +kernel
theorem dL_texts_442 : decode cL_texts 442 = .ok (.iconst 4, 1) := by decide +kernel
theorem dL_texts_443 : decode cL_texts 443 = .ok (.invokevirtual 9, 3) := by decide +kernel
theorem dL_texts_446 : decode cL_texts 446 = .ok (.bipush 24, 2) := by decide +kernel
theorem dL_texts_448 : decode cL_texts 448 = .ok (.if_icmp .ne 140, 3) := by decide +kernel
theorem dL_texts_451 : decode cL_texts 451 = .ok (.aload_n 0, 1) := by decide +kernel
theorem dL_texts_452 : decode cL_texts 452 = .ok (.iconst 3, 1) := by decide +kernel
theorem dL_texts_453 : decode cL_texts 453 = .ok (.iconst 3, 1) := by decide +kernel
theorem dL_texts_454 : decode cL_texts 454 = .ok (.invokevirtual 49, 3) := by decide +kernel
theorem dL_texts_457 : decode cL_texts 457 = .ok (.bipush 77, 2) := by decide +kernel
theorem dL_texts_459 : decode cL_texts 459 = .ok (.if_icmp .ne 129, 3) := by decide +kernel
theorem dL_texts_462 : decode cL_texts 462 = .ok (.aload_n 0, 1) := by decide +kernel
theorem dL_texts_463 : decode cL_texts 463 = .ok (.iconst 2, 1) := by decide +kernel
theorem dL_texts_464 : decode cL_texts 464 = .ok (.iconst 0, 1) := by decide +kernel
theorem dL_texts_465 : decode cL_texts 465 = .ok (.invokevirtual 49, 3) := by decide +kernel
theorem dL_texts_468 : decode cL_texts 468 = .ok (.ifCond .ne 120, 3) := by decide +kernel
theorem dL_texts_471 : decode cL_texts 471 = .ok (.aload_n 0, 1) := by decide +kernel
theorem dL_texts_472 : decode cL_texts 472 = .ok (.invokevirtual 46, 3) := by decide +kernel
theorem dL_texts_475 : decode cL_texts 475 = .ok (.iconst 2, 1) := by decide +kernel
theorem dL_texts_476 : decode cL_texts 476 = .ok (.if_icmp .ne 112, 3) := by decide +kernel
theorem dL_texts_479 : decode cL_texts 479 = .ok (.aload_n 0, 1) := by decide +kernel
theorem dL_texts_480 : decode cL_texts 480 = .ok (.invokevirtual 46, 3) := by decide +kernel
theorem dL_texts_483 : decode cL_texts 483 = .ok (.iconst 1, 1) := by decide +kernel
theorem dL_texts_484 : decode cL_texts 484 = .ok (.if_icmp .ne 104, 3) := by decide +kernel
theorem dL_texts_487 : decode cL_texts 487 = .ok (.aload_n 0, 1) := by decide +kernel
theorem dL_texts_488 : decode cL_texts 488 = .ok (.iconst 0, 1) := by decide +kernel
theorem dL_texts_489 : decode cL_texts 489 = .ok (.invokevirtual 61, 3) := by decide +kernel
theorem dL_texts_492 : decode cL_texts 492 = .ok (.iconst 4, 1) := by decide +kernel
theorem dL_texts_493 : decode cL_texts 493 = .ok (.if_icmp .ne 95, 3) := by decide +kernel
theorem dL_texts_496 : decode cL_texts 496 = .ok (.aload_n 0, 1) := by decide +kernel
theorem dL_texts_497 : decode cL_texts 497 = .ok (.iconst 0, 1) := by decide +kernel
theorem dL_texts_498 : decode cL_texts 498 = .ok (.iconst 0, 1) := by decide +kernel
theorem dL_texts_499 : decode cL_texts 499 = .ok (.invokevirtual 49, 3) := by decide +kernel
theorem dL_texts_502 : decode cL_texts 502 = .ok (.ifCond .ne 86, 3) := by decide +kernel
theorem dL_texts_505 : decode cL_texts 505 = .ok (.aload_n 0, 1) := by decide +kernel
theorem dL_texts_506 : decode cL_texts 506 = .ok (.iconst 3, 1) := by decide +kernel
theorem dL_texts_507 : decode cL_texts 507 = .ok (.iconst 3, 1) := by decide +kernel
theorem dL_texts_508 : decode cL_texts 508 = .ok (.invokevirtual 49, 3) := by decide +kernel
theorem dL_texts_511 : decode cL_texts 511 = .ok (.bipush 77, 2) := by decide +kernel
theorem dL_texts_513 : decode cL_texts 513 = .ok (.if_icmp .ne 75, 3) := by decide +kernel
theorem dL_texts_516 : decode cL_texts 516 = .ok (.aload_n 0, 1) := by decide +kernel
theorem dL_texts_517 : decode cL_texts 517 = .ok (.ldc2_w 197, 3) := by decide +kernel
theorem dL_texts_520 : decode cL_texts 520 = .ok (.invokestatic 134, 3) := by decide +kernel
theorem dL_texts_523 : decode cL_texts 523 = .ok (.ifCond .eq 65, 3) := by decide +kernel
theorem dL_texts_526 : decode cL_texts 526 = .ok (.aload_n 0, 1) := by decide +kernel
theorem dL_texts_527 : decode cL_texts 527 = .ok (.invokevirtual 37, 3) := by decide +kernel
theorem dL_texts_530 : decode cL_texts 530 = .ok (.bipush 12, 2) := by decide +kernel
theorem dL_texts_532 : decode cL_texts 532 = .ok (.if_icmp .ne 56, 3) := by decide +kernel
theorem dL_texts_535 : decode cL_texts 535 = .ok (.aload_n 0, 1) := by decide +kernel
theorem dL_texts_536 : decode cL_texts 536 = .ok (.iconst 0, 1) := by decide +kernel
theorem dL_texts_537 : decode cL_texts 537 = .ok (.iconst 0, 1) := by decide +kernel
theorem dL_texts_538 : decode cL_texts 538 = .ok (.invokevirtual 49, 3) := by decide +kernel
theorem dL_texts_541 : decode cL_texts 541 = .ok (.sipush 9999, 3) := by decide +kernel
theorem dL_texts_544 : decode cL_texts 544 = .ok (.if_icmp .ne 44, 3) := by decide +kernel
theorem dL_texts_547 : decode cL_texts 547 = .ok (.aload_n 0, 1) := by decide +kernel
theorem dL_texts_548 : decode cL_texts 548 = .ok (.iconst 1, 1) := by decide +kernel
theorem dL_texts_549 : decode cL_texts 549 = .ok (.invokevirtual 55, 3) := by decide +kernel
theorem dL_texts_552 : decode cL_texts 552 = .ok (.iconst 1, 1) := by decide +kernel
theorem dL_texts_553 : decode cL_texts 553 = .ok (.if_icmp .ne 35, 3) := by decide +kernel
theorem dL_texts_556 : decode cL_texts 556 = .ok (.aload_n 0, 1) := by decide +kernel
theorem dL_texts_557 : decode cL_texts 557 = .ok (.iconst 2, 1) := by decide +kernel
theorem dL_texts_558 : decode cL_texts 558 = .ok (.invokevirtual 55, 3) := by decide +kernel
theorem dL_texts_561 : decode cL_texts 561 = .ok (.iconst 1, 1) := by decide +kernel
theorem dL_texts_562 : decode cL_texts 562 = .ok (.if_icmp .ne 26, 3) := by decide +kernel
theorem dL_texts_565 : decode cL_texts 565 = .ok (.aload_n 0, 1) := by decide +kernel
theorem dL_texts_566 : decode cL_texts 566 = .ok (.invokevirtual 88, 3) := by decide +kernel
theorem dL_texts_569 : decode cL_texts 569 = .ok (.iconst 2, 1) := by decide +kernel
theorem dL_texts_570 : decode cL_texts 570 = .ok (.if_icmp .ne 18, 3) := by decide +kernel
theorem dL_texts_573 : decode cL_texts 573 = .ok (.aload_n 0, 1) := by decide +kernel
theorem dL_texts_574 : decode cL_texts 574 = .ok (.bipush 7, 2) := by decide +kernel
theorem dL_texts_576 : decode cL_texts 576 = .ok (.iconst 0, 1) := by decide +kernel
theorem dL_texts_577 : decode cL_texts 577 = .ok (.iconst 0, 1) := by decide +kernel
theorem dL_texts_578 : decode cL_texts 578 = .ok (.iconst 0, 1) := by decide +kernel
theorem dL_texts_579 : decode cL_texts 579 = .ok (.iconst 0, 1) := by decide +kernel
theorem dL_texts_580 : decode cL_texts 580 = .ok (.invokestatic 97, 3) := by decide +kernel
theorem dL_texts_583 : decode cL_texts 583 = .ok (.bipush (-12), 2) := by decide +kernel
theorem dL_texts_585 : decode cL_texts 585 = .ok (.if_icmp .eq 5, 3) := by decide +kernel
theorem dL_texts_588 : decode cL_texts 588 = .ok (.iconst 0, 1) := by decide +kernel
theorem dL_texts_589 : decode cL_texts 589 = .ok (.ireturn, 1) := by decide +kernel
theorem dL_texts_590 : decode cL_texts 590 = .ok (.iconst 0, 1) := by decide +kernel
theorem dL_texts_591 : decode cL_texts 591 = .ok (.istore_n 1, 1) := by decide +kernel
theorem dL_texts_592 : decode cL_texts 592 = .ok (.iload_n 1, 1) := by decide +kernel
theorem dL_texts_593 : decode cL_texts 593 = .ok (.bipush 60, 2) := by decide +kernel
theorem dL_texts_595 : decode cL_texts 595 = .ok (.if_icmp .ge 42, 3) := by decide +kernel
theorem dL_texts_598 : decode cL_texts 598 = .ok (.aload_n 0, 1) := by decide +kernel
theorem dL_texts_599 : decode cL_texts 599 = .ok (.bipush 55, 2) := by decide +kernel
theorem dL_texts_601 : decode cL_texts 601 = .ok (.invokevirtual 34, 3) := by decide +kernel
theorem dL_texts_604 : decode cL_texts 604 = .ok (.iload_n 1, 1) := by decide +kernel
theorem dL_texts_605 : decode cL_texts 605 = .ok (.iconst 1, 1) := by decide +kernel
theorem dL_texts_606 : decode cL_texts 606 = .ok (.iadd, 1) := by decide +kernel
theorem dL_texts_607 : decode cL_texts 607 = .ok (.if_icmp .ne 22, 3) := by decide +kernel
theorem dL_texts_610 : decode cL_texts 610 = .ok (.aload_n 0, 1) := by decide +kernel
theorem dL_texts_611 : decode cL_texts 611 = .ok (.invokevirtual 138, 3) := by decide +kernel
theorem dL_texts_614 : decode cL_texts 614 = .ok (.iload_n 1, 1) := by decide +kernel
theorem dL_texts_615 : decode cL_texts 615 = .ok (.iconst 4, 1) := by decide +kernel
theorem dL_texts_616 : decode cL_texts 616 = .ok (.if_icmp .ge 9, 3) := by decide +kernel
theorem dL_texts_619 : decode cL_texts 619 = .ok (.iload_n 1, 1) := by decide +kernel
theorem dL_texts_620 : decode cL_texts 620 = .ok (.iconst 1, 1) := by decide +kernel
theorem dL_texts_621 : decode cL_texts 621 = .ok (.iadd, 1) := by decide +kernel
theorem dL_texts_622 : decode cL_texts 622 = .ok (.goto 4, 3) := by decide +kernel
theorem dL_texts_625 : decode cL_texts 625 = .ok (.iconst 4, 1) := by decide +kernel
theorem dL_texts_626 : decode cL_texts 626 = .ok (.if_icmp .eq 5, 3) := by decide +kernel
theorem dL_texts_629 : decode cL_texts 629 = .ok (.iconst 0, 1) := by decide +kernel
theorem dL_texts_630 : decode cL_texts 630 = .ok (.ireturn, 1) := by decide +kernel
theorem dL_texts_631 : decode cL_texts 631 = .ok (.iinc 1 1, 3) := by decide +kernel
theorem dL_texts_634 : decode cL_texts 634 = .ok (.goto (-42), 3) := by decide +kernel
theorem dL_texts_637 : decode cL_texts 637 = .ok (.aload_n 0, 1) := by decide +kernel
theorem dL_texts_638 : decode cL_texts 638 = .ok (.bipush 6, 2) := by decide +kernel
theorem dL_texts_640 : decode cL_texts 640 = .ok (.bipush 47, 2) := by decide +kernel
theorem dL_texts_642 : decode cL_texts 642 = .ok (.iconst 0, 1) := by decide +kernel
theorem dL_texts_643 : decode cL_texts 643 = .ok (.iconst 0, 1) := by decide +kernel
theorem dL_texts_644 : decode cL_texts 644 = .ok (.iconst 0, 1) := by decide +kernel
theorem dL_texts_645 : decode cL_texts 645 = .ok (.invokestatic 97, 3) := by decide +kernel
theorem dL_texts_648 : decode cL_texts 648 = .ok (.bipush (-13), 2) := by decide +kernel
theorem dL_texts_650 : decode cL_texts 650 = .ok (.if_icmp .ne 31, 3) := by decide +kernel
theorem dL_texts_653 : decode cL_texts 653 = .ok (.aload_n 0, 1) := by decide +kernel
theorem dL_texts_654 : decode cL_texts 654 = .ok (.bipush 7, 2) := by decide +kernel
theorem dL_texts_656 : decode cL_texts 656 = .ok (.iconst 0, 1) := by decide +kernel
theorem dL_texts_657 : decode cL_texts 657 = .ok (.iconst 0, 1) := by decide +kernel
theorem dL_texts_658 : decode cL_texts 658 = .ok (.iconst 0, 1) := by decide +kernel
theorem dL_texts_659 : decode cL_texts 659 = .ok (.iconst 0, 1) := by decide +kernel
theorem dL_texts_660 : decode cL_texts 660 = .ok (.invokestatic 97, 3) := by decide +kernel
theorem dL_texts_663 : decode cL_texts 663 = .ok (.bipush (-12), 2) := by decide +kernel
theorem dL_texts_665 : decode cL_texts 665 = .ok (.if_icmp .ne 16, 3) := by decide +kernel
theorem dL_texts_668 : decode cL_texts 668 = .ok (.aload_n 0, 1) := by decide +kernel
theorem dL_texts_669 : decode cL_texts 669 = .ok (.invokevirtual 131, 3) := by decide +kernel
theorem dL_texts_672 : decode cL_texts 672 = .ok (.bipush 60, 2) := by decide +kernel
theorem dL_texts_674 : decode cL_texts 674 = .ok (.if_icmp .ne 7, 3) := by decide +kernel
theorem dL_texts_677 : decode cL_texts 677 = .ok (.iconst 1, 1) := by decide +kernel
theorem dL_texts_678 : decode cL_texts 678 = .ok (.goto 4, 3) := by decide +kernel
theorem dL_texts_681 : decode cL_texts 681 = .ok (.iconst 0, 1) := by decide +kernel
theorem dL_texts_682 : decode cL_texts 682 = .ok (.ireturn, 1) := by decide +kernel
theorem dL_law_0 : decode cL_law 0 = .ok (.invokestatic 199, 3) := by decide +kernel
theorem dL_law_3 : decode cL_law 3 = .ok (.ifCond .eq 15, 3) := by decide +kernel
theorem dL_law_6 : decode cL_law 6 = .ok (.invokestatic 203, 3) := by decide +kernel
theorem dL_law_9 : decode cL_law 9 = .ok (.ifCond .eq 9, 3) := by decide +kernel
theorem dL_law_12 : decode cL_law 12 = .ok (.invokestatic 206, 3) := by decide +kernel
theorem dL_law_15 : decode cL_law 15 = .ok (.ifCond .ne 5, 3) := by decide +kernel
theorem dL_law_18 : decode cL_law 18 = .ok (.iconst 0, 1) := by decide +kernel
theorem dL_law_19 : decode cL_law 19 = .ok (.ireturn, 1) := by decide +kernel
theorem dL_law_20 : decode cL_law 20 = .ok (.new 10, 3) := by decide +kernel
theorem dL_law_23 : decode cL_law 23 = .ok (.dup, 1) := by decide +kernel
theorem dL_law_24 : decode cL_law 24 = .ok (.invokespecial 110, 3) := by decide +kernel
theorem dL_law_27 : decode cL_law 27 = .ok (.astore_n 1, 1) := by decide +kernel
theorem dL_law_28 : decode cL_law 28 = .ok (.bipush 64, 2) := by decide +kernel
theorem dL_law_30 : decode cL_law 30 = .ok (.newarray .long, 2) := by decide +kernel
theorem dL_law_32 : decode cL_law 32 = .ok (.astore_n 2, 1) := by decide +kernel
theorem dL_law_33 : decode cL_law 33 = .ok (.iconst 0, 1) := by decide +kernel
theorem dL_law_34 : decode cL_law 34 = .ok (.istore_n 3, 1) := by decide +kernel
theorem dL_law_35 : decode cL_law 35 = .ok (.aload_n 1, 1) := by decide +kernel
theorem dL_law_36 : decode cL_law 36 = .ok (.iconst 3, 1) := by decide +kernel
theorem dL_law_37 : decode cL_law 37 = .ok (.iconst 1, 1) := by decide +kernel
theorem dL_law_38 : decode cL_law 38 = .ok (.iconst 3, 1) := by decide +kernel
theorem dL_law_39 : decode cL_law 39 = .ok (.iconst 1, 1) := by decide +kernel
theorem dL_law_40 : decode cL_law 40 = .ok (.invokevirtual 19, 3) := by decide +kernel
theorem dL_law_43 : decode cL_law 43 = .ok (.iconst 1, 1) := by decide +kernel
theorem dL_law_44 : decode cL_law 44 = .ok (.if_icmp .ne 44, 3) := by decide +kernel
theorem dL_law_47 : decode cL_law 47 = .ok (.aload_n 1, 1) := by decide +kernel
theorem dL_law_48 : decode cL_law 48 = .ok (.iconst 2, 1) := by decide +kernel
theorem dL_law_49 : decode cL_law 49 = .ok (.iconst 1, 1) := by decide +kernel
theorem dL_law_50 : decode cL_law 50 = .ok (.bipush 40, 2) := by decide +kernel
theorem dL_law_52 : decode cL_law 52 = .ok (.invokevirtual 15, 3) := by decide +kernel
theorem dL_law_55 : decode cL_law 55 = .ok (.iconst 1, 1) := by decide +kernel
theorem dL_law_56 : decode cL_law 56 = .ok (.if_icmp .ne 32, 3) := by decide +kernel
theorem dL_law_59 : decode cL_law 59 = .ok (.aload_n 1, 1) := by decide +kernel
theorem dL_law_60 : decode cL_law 60 = .ok (.bipush 7, 2) := by decide +kernel
theorem dL_law_62 : decode cL_law 62 = .ok (.invokevirtual 27, 3) := by decide +kernel
theorem dL_law_65 : decode cL_law 65 = .ok (.iconst 2, 1) := by decide +kernel
theorem dL_law_66 : decode cL_law 66 = .ok (.if_icmp .ne 22, 3) := by decide +kernel
theorem dL_law_69 : decode cL_law 69 = .ok (.aload_n 1, 1) := by decide +kernel
theorem dL_law_70 : decode cL_law 70 = .ok (.iconst 0, 1) := by decide +kernel
theorem dL_law_71 : decode cL_law 71 = .ok (.invokevirtual 23, 3) := by decide +kernel
theorem dL_law_74 : decode cL_law 74 = .ok (.bipush 16, 2) := by decide +kernel
theorem dL_law_76 : decode cL_law 76 = .ok (.if_icmp .ne 12, 3) := by decide +kernel
theorem dL_law_79 : decode cL_law 79 = .ok (.aload_n 1, 1) := by decide +kernel
theorem dL_law_80 : decode cL_law 80 = .ok (.iconst 1, 1) := by decide +kernel
theorem dL_law_81 : decode cL_law 81 = .ok (.invokevirtual 40, 3) := by decide +kernel
theorem dL_law_84 : decode cL_law 84 = .ok (.iconst 4, 1) := by decide +kernel
theorem dL_law_85 : decode cL_law 85 = .ok (.if_icmp .eq 5, 3) := by decide +kernel
theorem dL_law_88 : decode cL_law 88 = .ok (.iconst 0, 1) := by decide +kernel
theorem dL_law_89 : decode cL_law 89 = .ok (.ireturn, 1) := by decide +kernel
theorem dL_law_90 : decode cL_law 90 = .ok (.aload_n 1, 1) := by decide +kernel
theorem dL_law_91 : decode cL_law 91 = .ok (.invokestatic 102, 3) := by decide +kernel
theorem dL_law_94 : decode cL_law 94 = .ok (.lstore 4, 2) := by decide +kernel
theorem dL_law_96 : decode cL_law 96 = .ok (.iconst 0, 1) := by decide +kernel
theorem dL_law_97 : decode cL_law 97 = .ok (.istore 6, 2) := by decide +kernel
theorem dL_law_99 : decode cL_law 99 = .ok (.iload 6, 2) := by decide +kernel
theorem dL_law_101 : decode cL_law 101 = .ok (.bipush 28, 2) := by decide +kernel
theorem dL_law_103 : decode cL_law 103 = .ok (.if_icmp .ge 354, 3) := by decide +kernel
theorem dL_law_106 : decode cL_law 106 = .ok (.aload_n 0, 1) := by decide +kernel
theorem dL_law_107 : decode cL_law 107 = .ok (.iload 6, 2) := by decide +kernel
theorem dL_law_109 : decode cL_law 109 = .ok (.invokestatic 209, 3) := by decide +kernel
theorem dL_law_112 : decode cL_law 112 = .ok (.istore 7, 2) := by decide +kernel
theorem dL_law_114 : decode cL_law 114 = .ok (.iload 7, 2) := by decide +kernel
theorem dL_law_116 : decode cL_law 116 = .ok (.bipush 18, 2) := by decide +kernel
theorem dL_law_118 : decode cL_law 118 = .ok (.invokestatic 213, 3) := by decide +kernel
theorem dL_law_121 : decode cL_law 121 = .ok (.istore 8, 2) := by decide +kernel
theorem dL_law_123 : decode cL_law 123 = .ok (.aload_n 2, 1) := by decide +kernel
theorem dL_law_124 : decode cL_law 124 = .ok (.iload_n 3, 1) := by decide +kernel
theorem dL_law_125 : decode cL_law 125 = .ok (.aload_n 1, 1) := by decide +kernel
theorem dL_law_126 : decode cL_law 126 = .ok (.invokestatic 102, 3) := by decide +kernel
theorem dL_law_129 : decode cL_law 129 = .ok (.lastore, 1) := by decide +kernel
theorem dL_law_130 : decode cL_law 130 = .ok (.aload_n 1, 1) := by decide +kernel
theorem dL_law_131 : decode cL_law 131 = .ok (.bipush 8, 2) := by decide +kernel
theorem dL_law_133 : decode cL_law 133 = .ok (.invokevirtual 61, 3) := by decide +kernel
theorem dL_law_136 : decode cL_law 136 = .ok (.istore 9, 2) := by decide +kernel
theorem dL_law_138 : decode cL_law 138 = .ok (.iload 7, 2) := by decide +kernel
theorem dL_law_140 : decode cL_law 140 = .ok (.iconst 5, 1) := by decide +kernel
theorem dL_law_141 : decode cL_law 141 = .ok (.ishr, 1) := by decide +kernel
theorem dL_law_142 : decode cL_law 142 = .ok (.iconst 5, 1) := by decide +kernel
theorem dL_law_143 : decode cL_law 143 = .ok (.invokestatic 213, 3) := by decide +kernel
theorem dL_law_146 : decode cL_law 146 = .ok (.istore 10, 2) := by decide +kernel
theorem dL_law_148 : decode cL_law 148 = .ok (.iload 7, 2) := by decide +kernel
theorem dL_law_150 : decode cL_law 150 = .ok (.bipush 8, 2) := by decide +kernel
theorem dL_law_152 : decode cL_law 152 = .ok (.ishr, 1) := by decide +kernel
theorem dL_law_153 : decode cL_law 153 = .ok (.iconst 5, 1) := by decide +kernel
theorem dL_law_154 : decode cL_law 154 = .ok (.invokestatic 213, 3) := by decide +kernel
theorem dL_law_157 : decode cL_law 157 = .ok (.istore 11, 2) := by decide +kernel
theorem dL_law_159 : decode cL_law 159 = .ok (.iload 8, 2) := by decide +kernel
theorem dL_law_161 : decode cL_law 161 = .ok (.bipush 6, 2) := by decide +kernel
theorem dL_law_163 : decode cL_law 163 = .ok (.if_icmp .ge 38, 3) := by decide +kernel
theorem dL_law_166 : decode cL_law 166 = .ok (.aload_n 1, 1) := by decide +kernel
theorem dL_law_167 : decode cL_law 167 = .ok (.iconst 1, 1) := by decide +kernel
theorem dL_law_168 : decode cL_law 168 = .ok (.iload 10, 2) := by decide +kernel
theorem dL_law_170 : decode cL_law 170 = .ok (.iload 11, 2) := by decide +kernel
theorem dL_law_172 : decode cL_law 172 = .ok (.iload 7, 2) := by decide +kernel
theorem dL_law_174 : decode cL_law 174 = .ok (.bipush 10, 2) := by decide +kernel
theorem dL_law_176 : decode cL_law 176 = .ok (.ishr, 1) := by decide +kernel
theorem dL_law_177 : decode cL_law 177 = .ok (.bipush 9, 2) := by decide +kernel
theorem dL_law_179 : decode cL_law 179 = .ok (.invokestatic 213, 3) := by decide +kernel
theorem dL_law_182 : decode cL_law 182 = .ok (.iload 7, 2) := by decide +kernel
theorem dL_law_184 : decode cL_law 184 = .ok (.bipush 12, 2) := by decide +kernel
theorem dL_law_186 : decode cL_law 186 = .ok (.ishr, 1) := by decide +kernel
theorem dL_law_187 : decode cL_law 187 = .ok (.sipush 1300, 3) := by decide +kernel
theorem dL_law_190 : decode cL_law 190 = .ok (.invokestatic 213, 3) := by decide +kernel
theorem dL_law_193 : decode cL_law 193 = .ok (.imul, 1) := by decide +kernel
theorem dL_law_194 : decode cL_law 194 = .ok (.iconst 0, 1) := by decide +kernel
theorem dL_law_195 : decode cL_law 195 = .ok (.invokestatic 97, 3) := by decide +kernel
theorem dL_law_198 : decode cL_law 198 = .ok (.goto 196, 3) := by decide +kernel
theorem dL_law_201 : decode cL_law 201 = .ok (.iload 8, 2) := by decide +kernel
theorem dL_law_203 : decode cL_law 203 = .ok (.bipush 8, 2) := by decide +kernel
theorem dL_law_205 : decode cL_law 205 = .ok (.if_icmp .ge 50, 3) := by decide +kernel
theorem dL_law_208 : decode cL_law 208 = .ok (.aload_n 1, 1) := by decide +kernel
theorem dL_law_209 : decode cL_law 209 = .ok (.iconst 2, 1) := by decide +kernel
theorem dL_law_210 : decode cL_law 210 = .ok (.iload 7, 2) := by decide +kernel
theorem dL_law_212 : decode cL_law 212 = .ok (.iconst 5, 1) := by decide +kernel
theorem dL_law_213 : decode cL_law 213 = .ok (.ishr, 1) := by decide +kernel
theorem dL_law_214 : decode cL_law 214 = .ok (.bipush 53, 2) := by decide +kernel
theorem dL_law_216 : decode cL_law 216 = .ok (.invokestatic 213, 3) := by decide +kernel
theorem dL_law_219 : decode cL_law 219 = .ok (.iload 7, 2) := by decide +kernel
theorem dL_law_221 : decode cL_law 221 = .ok (.bipush 9, 2) := by decide +kernel
theorem dL_law_223 : decode cL_law 223 = .ok (.ishr, 1) := by decide +kernel
theorem dL_law_224 : decode cL_law 224 = .ok (.bipush 10, 2) := by decide +kernel
theorem dL_law_226 : decode cL_law 226 = .ok (.invokestatic 213, 3) := by decide +kernel
theorem dL_law_229 : decode cL_law 229 = .ok (.iload 7, 2) := by decide +kernel
theorem dL_law_231 : decode cL_law 231 = .ok (.bipush 12, 2) := by decide +kernel
theorem dL_law_233 : decode cL_law 233 = .ok (.ishr, 1) := by decide +kernel
theorem dL_law_234 : decode cL_law 234 = .ok (.bipush 50, 2) := by decide +kernel
theorem dL_law_236 : decode cL_law 236 = .ok (.invokestatic 213, 3) := by decide +kernel
theorem dL_law_239 : decode cL_law 239 = .ok (.iload 7, 2) := by decide +kernel
theorem dL_law_241 : decode cL_law 241 = .ok (.bipush 16, 2) := by decide +kernel
theorem dL_law_243 : decode cL_law 243 = .ok (.ishr, 1) := by decide +kernel
theorem dL_law_244 : decode cL_law 244 = .ok (.bipush 11, 2) := by decide +kernel
theorem dL_law_246 : decode cL_law 246 = .ok (.invokestatic 213, 3) := by decide +kernel
theorem dL_law_249 : decode cL_law 249 = .ok (.invokestatic 97, 3) := by decide +kernel
theorem dL_law_252 : decode cL_law 252 = .ok (.goto 142, 3) := by decide +kernel
theorem dL_law_255 : decode cL_law 255 = .ok (.iload 8, 2) := by decide +kernel
theorem dL_law_257 : decode cL_law 257 = .ok (.bipush 8, 2) := by decide +kernel
theorem dL_law_259 : decode cL_law 259 = .ok (.if_icmp .ne 32, 3) := by decide +kernel
theorem dL_law_262 : decode cL_law 262 = .ok (.aload_n 1, 1) := by decide +kernel
theorem dL_law_263 : decode cL_law 263 = .ok (.iconst 0, 1) := by decide +kernel
theorem dL_law_264 : decode cL_law 264 = .ok (.iload 7, 2) := by decide +kernel
theorem dL_law_266 : decode cL_law 266 = .ok (.iconst 5, 1) := by decide +kernel
theorem dL_law_267 : decode cL_law 267 = .ok (.ishr, 1) := by decide +kernel
theorem dL_law_268 : decode cL_law 268 = .ok (.bipush 12, 2) := by decide +kernel
theorem dL_law_270 : decode cL_law 270 = .ok (.invokestatic 213, 3) := by decide +kernel
theorem dL_law_273 : decode cL_law 273 = .ok (.iload 7, 2) := by decide +kernel
theorem dL_law_275 : decode cL_law 275 = .ok (.bipush 9, 2) := by decide +kernel
theorem dL_law_277 : decode cL_law 277 = .ok (.ishr, 1) := by decide +kernel
theorem dL_law_278 : decode cL_law 278 = .ok (.bipush 11, 2) := by decide +kernel
theorem dL_law_280 : decode cL_law 280 = .ok (.invokestatic 213, 3) := by decide +kernel
theorem dL_law_283 : decode cL_law 283 = .ok (.iconst 0, 1) := by decide +kernel
theorem dL_law_284 : decode cL_law 284 = .ok (.iconst 0, 1) := by decide +kernel
theorem dL_law_285 : decode cL_law 285 = .ok (.invokestatic 97, 3) := by decide +kernel
theorem dL_law_288 : decode cL_law 288 = .ok (.goto 106, 3) := by decide +kernel
theorem dL_law_291 : decode cL_law 291 = .ok (.iload 8, 2) := by decide +kernel
theorem dL_law_293 : decode cL_law 293 = .ok (.bipush 12, 2) := by decide +kernel
theorem dL_law_295 : decode cL_law 295 = .ok (.if_icmp .ge 22, 3) := by decide +kernel
theorem dL_law_298 : decode cL_law 298 = .ok (.aload_n 1, 1) := by decide +kernel
theorem dL_law_299 : decode cL_law 299 = .ok (.iconst 3, 1) := by decide +kernel
theorem dL_law_300 : decode cL_law 300 = .ok (.iload 7, 2) := by decide +kernel
theorem dL_law_302 : decode cL_law 302 = .ok (.iconst 5, 1) := by decide +kernel
theorem dL_law_303 : decode cL_law 303 = .ok (.ishr, 1) := by decide +kernel
theorem dL_law_304 : decode cL_law 304 = .ok (.iconst 4, 1) := by decide +kernel
theorem dL_law_305 : decode cL_law 305 = .ok (.invokestatic 213, 3) := by decide +kernel
theorem dL_law_308 : decode cL_law 308 = .ok (.iconst 0, 1) := by decide +kernel
theorem dL_law_309 : decode cL_law 309 = .ok (.iconst 0, 1) := by decide +kernel
theorem dL_law_310 : decode cL_law 310 = .ok (.iconst 0, 1) := by decide +kernel
theorem dL_law_311 : decode cL_law 311 = .ok (.invokestatic 97, 3) := by decide +kernel
theorem dL_law_314 : decode cL_law 314 = .ok (.goto 80, 3) := by decide +kernel
theorem dL_law_317 : decode cL_law 317 = .ok (.iload 8, 2) := by decide +kernel
theorem dL_law_319 : decode cL_law 319 = .ok (.bipush 12, 2) := by decide +kernel
theorem dL_law_321 : decode cL_law 321 = .ok (.if_icmp .ne 23, 3) := by decide +kernel
theorem dL_law_324 : decode cL_law 324 = .ok (.aload_n 1, 1) := by decide +kernel
theorem dL_law_325 : decode cL_law 325 = .ok (.iconst 4, 1) := by decide +kernel
theorem dL_law_326 : decode cL_law 326 = .ok (.iload 7, 2) := by decide +kernel
theorem dL_law_328 : decode cL_law 328 = .ok (.iconst 5, 1) := by decide +kernel
theorem dL_law_329 : decode cL_law 329 = .ok (.ishr, 1) := by decide +kernel
theorem dL_law_330 : decode cL_law 330 = .ok (.bipush 101, 2) := by decide +kernel
theorem dL_law_332 : decode cL_law 332 = .ok (.invokestatic 213, 3) := by decide +kernel
theorem dL_law_335 : decode cL_law 335 = .ok (.iconst 0, 1) := by decide +kernel
theorem dL_law_336 : decode cL_law 336 = .ok (.iconst 0, 1) := by decide +kernel
theorem dL_law_337 : decode cL_law 337 = .ok (.iconst 0, 1) := by decide +kernel
theorem dL_law_338 : decode cL_law 338 = .ok (.invokestatic 97, 3) := by decide +kernel
theorem dL_law_341 : decode cL_law 341 = .ok (.goto 53, 3) := by decide +kernel
theorem dL_law_344 : decode cL_law 344 = .ok (.iload 8, 2) := by decide +kernel
theorem dL_law_346 : decode cL_law 346 = .ok (.bipush 13, 2) := by decide +kernel
theorem dL_law_348 : decode cL_law 348 = .ok (.if_icmp .ne 15, 3) := by decide +kernel
theorem dL_law_351 : decode cL_law 351 = .ok (.aload_n 1, 1) := by decide +kernel
theorem dL_law_352 : decode cL_law 352 = .ok (.iconst 5, 1) := by decide +kernel
theorem dL_law_353 : decode cL_law 353 = .ok (.iconst 0, 1) := by decide +kernel
theorem dL_law_354 : decode cL_law 354 = .ok (.iconst 0, 1) := by decide +kernel
theorem dL_law_355 : decode cL_law 355 = .ok (.iconst 0, 1) := by decide +kernel
theorem dL_law_356 : decode cL_law 356 = .ok (.iconst 0, 1) := by decide +kernel
theorem dL_law_357 : decode cL_law 357 = .ok (.invokestatic 97, 3) := by decide +kernel
theorem dL_law_360 : decode cL_law 360 = .ok (.goto 34, 3) := by decide +kernel
theorem dL_law_363 : decode cL_law 363 = .ok (.iload 8, 2) := by decide +kernel
theorem dL_law_365 : decode cL_law 365 = .ok (.bipush 16, 2) := by decide +kernel
theorem dL_law_367 : decode cL_law 367 = .ok (.if_icmp .ge 10, 3) := by decide +kernel
theorem dL_law_370 : decode cL_law 370 = .ok (.aload_n 1, 1) := by decide +kernel
theorem dL_law_371 : decode cL_law 371 = .ok (.invokevirtual 121, 3) := by decide +kernel
theorem dL_law_374 : decode cL_law 374 = .ok (.goto 20, 3) := by decide +kernel
theorem dL_law_377 : decode cL_law 377 = .ok (.aload_n 1, 1) := by decide +kernel
theorem dL_law_378 : decode cL_law 378 = .ok (.bipush 9, 2) := by decide +kernel
theorem dL_law_380 : decode cL_law 380 = .ok (.iload 7, 2) := by decide +kernel
theorem dL_law_382 : decode cL_law 382 = .ok (.iconst 5, 1) := by decide +kernel
theorem dL_law_383 : decode cL_law 383 = .ok (.ishr, 1) := by decide +kernel
theorem dL_law_384 : decode cL_law 384 = .ok (.iconst 2, 1) := by decide +kernel
theorem dL_law_385 : decode cL_law 385 = .ok (.invokestatic 213, 3) := by decide +kernel
theorem dL_law_388 : decode cL_law 388 = .ok (.iconst 0, 1) := by decide +kernel
theorem dL_law_389 : decode cL_law 389 = .ok (.iconst 0, 1) := by decide +kernel
theorem dL_law_390 : decode cL_law 390 = .ok (.iconst 0, 1) := by decide +kernel
theorem dL_law_391 : decode cL_law 391 = .ok (.invokestatic 97, 3) := by decide +kernel
theorem dL_law_394 : decode cL_law 394 = .ok (.istore 12, 2) := by decide +kernel
theorem dL_law_396 : decode cL_law 396 = .ok (.iload 12, 2) := by decide +kernel
theorem dL_law_398 : decode cL_law 398 = .ok (.iconst (-1), 1) := by decide +kernel
theorem dL_law_399 : decode cL_law 399 = .ok (.if_icmp .ge 7, 3) := by decide +kernel
theorem dL_law_402 : decode cL_law 402 = .ok (.iconst 1, 1) := by decide +kernel
theorem dL_law_403 : decode cL_law 403 = .ok (.goto 4, 3) := by decide +kernel
theorem dL_law_406 : decode cL_law 406 = .ok (.iconst 0, 1) := by decide +kernel
theorem dL_law_407 : decode cL_law 407 = .ok (.istore 13, 2) := by decide +kernel
theorem dL_law_409 : decode cL_law 409 = .ok (.iload 13, 2) := by decide +kernel
theorem dL_law_411 : decode cL_law 411 = .ok (.ifCond .eq 27, 3) := by decide +kernel
theorem dL_law_414 : decode cL_law 414 = .ok (.aload_n 1, 1) := by decide +kernel
theorem dL_law_415 : decode cL_law 415 = .ok (.bipush 8, 2) := by decide +kernel
theorem dL_law_417 : decode cL_law 417 = .ok (.invokevirtual 61, 3) := by decide +kernel
theorem dL_law_420 : decode cL_law 420 = .ok (.iload 9, 2) := by decide +kernel
theorem dL_law_422 : decode cL_law 422 = .ok (.if_icmp .ne 14, 3) := by decide +kernel
theorem dL_law_425 : decode cL_law 425 = .ok (.aload_n 1, 1) := by decide +kernel
theorem dL_law_426 : decode cL_law 426 = .ok (.invokestatic 102, 3) := by decide +kernel
theorem dL_law_429 : decode cL_law 429 = .ok (.aload_n 2, 1) := by decide +kernel
theorem dL_law_430 : decode cL_law 430 = .ok (.iload_n 3, 1) := by decide +kernel
theorem dL_law_431 : decode cL_law 431 = .ok (.laload, 1) := by decide +kernel
theorem dL_law_432 : decode cL_law 432 = .ok (.lcmp, 1) := by decide +kernel
theorem dL_law_433 : decode cL_law 433 = .ok (.ifCond .eq 5, 3) := by decide +kernel
theorem dL_law_436 : decode cL_law 436 = .ok (.iconst 0, 1) := by decide +kernel
theorem dL_law_437 : decode cL_law 437 = .ok (.ireturn, 1) := by decide +kernel
theorem dL_law_438 : decode cL_law 438 = .ok (.iload_n 3, 1) := by decide +kernel
theorem dL_law_439 : decode cL_law 439 = .ok (.iload 13, 2) := by decide +kernel
theorem dL_law_441 : decode cL_law 441 = .ok (.ifCond .eq 7, 3) := by decide +kernel
theorem dL_law_444 : decode cL_law 444 = .ok (.iconst 0, 1) := by decide +kernel
theorem dL_law_445 : decode cL_law 445 = .ok (.goto 4, 3) := by decide +kernel
theorem dL_law_448 : decode cL_law 448 = .ok (.iconst 1, 1) := by decide +kernel
theorem dL_law_449 : decode cL_law 449 = .ok (.iadd, 1) := by decide +kernel
theorem dL_law_450 : decode cL_law 450 = .ok (.istore_n 3, 1) := by decide +kernel
theorem dL_law_451 : decode cL_law 451 = .ok (.iinc 6 1, 3) := by decide +kernel
theorem dL_law_454 : decode cL_law 454 = .ok (.goto (-355), 3) := by decide +kernel
theorem dL_law_457 : decode cL_law 457 = .ok (.aload_n 2, 1) := by decide +kernel
theorem dL_law_458 : decode cL_law 458 = .ok (.iload_n 3, 1) := by decide +kernel
theorem dL_law_459 : decode cL_law 459 = .ok (.aload_n 1, 1) := by decide +kernel
theorem dL_law_460 : decode cL_law 460 = .ok (.invokestatic 102, 3) := by decide +kernel
theorem dL_law_463 : decode cL_law 463 = .ok (.lastore, 1) := by decide +kernel
theorem dL_law_464 : decode cL_law 464 = .ok (.aload_n 1, 1) := by decide +kernel
theorem dL_law_465 : decode cL_law 465 = .ok (.invokestatic 117, 3) := by decide +kernel
theorem dL_law_468 : decode cL_law 468 = .ok (.ifCond .ne 5, 3) := by decide +kernel
theorem dL_law_471 : decode cL_law 471 = .ok (.iconst 0, 1) := by decide +kernel
theorem dL_law_472 : decode cL_law 472 = .ok (.ireturn, 1) := by decide +kernel
theorem dL_law_473 : decode cL_law 473 = .ok (.iconst 0, 1) := by decide +kernel
theorem dL_law_474 : decode cL_law 474 = .ok (.istore 6, 2) := by decide +kernel
theorem dL_law_476 : decode cL_law 476 = .ok (.aload_n 1, 1) := by decide +kernel
theorem dL_law_477 : decode cL_law 477 = .ok (.bipush 8, 2) := by decide +kernel
theorem dL_law_479 : decode cL_law 479 = .ok (.invokevirtual 61, 3) := by decide +kernel
theorem dL_law_482 : decode cL_law 482 = .ok (.ifCond .le 56, 3) := by decide +kernel
theorem dL_law_485 : decode cL_law 485 = .ok (.iload 6, 2) := by decide +kernel
theorem dL_law_487 : decode cL_law 487 = .ok (.iload_n 3, 1) := by decide +kernel
theorem dL_law_488 : decode cL_law 488 = .ok (.if_icmp .ge 50, 3) := by decide +kernel
theorem dL_law_491 : decode cL_law 491 = .ok (.aload_n 1, 1) := by decide +kernel
theorem dL_law_492 : decode cL_law 492 = .ok (.bipush 8, 2) := by decide +kernel
theorem dL_law_494 : decode cL_law 494 = .ok (.invokevirtual 61, 3) := by decide +kernel
theorem dL_law_497 : decode cL_law 497 = .ok (.istore 7, 2) := by decide +kernel
theorem dL_law_499 : decode cL_law 499 = .ok (.iload 6, 2) := by decide +kernel
theorem dL_law_501 : decode cL_law 501 = .ok (.iconst 5, 1) := by decide +kernel
theorem dL_law_502 : decode cL_law 502 = .ok (.if_icmp .gt 28, 3) := by decide +kernel
theorem dL_law_505 : decode cL_law 505 = .ok (.aload_n 1, 1) := by decide +kernel
theorem dL_law_506 : decode cL_law 506 = .ok (.invokestatic 102, 3) := by decide +kernel
theorem dL_law_509 : decode cL_law 509 = .ok (.aload_n 2, 1) := by decide +kernel
theorem dL_law_510 : decode cL_law 510 = .ok (.iload_n 3, 1) := by decide +kernel
theorem dL_law_511 : decode cL_law 511 = .ok (.iload 6, 2) := by decide +kernel
theorem dL_law_513 : decode cL_law 513 = .ok (.isub, 1) := by decide +kernel
theorem dL_law_514 : decode cL_law 514 = .ok (.laload, 1) := by decide +kernel
theorem dL_law_515 : decode cL_law 515 = .ok (.lcmp, 1) := by decide +kernel
theorem dL_law_516 : decode cL_law 516 = .ok (.ifCond .ne 14, 3) := by decide +kernel
theorem dL_law_519 : decode cL_law 519 = .ok (.aload_n 1, 1) := by decide +kernel
theorem dL_law_520 : decode cL_law 520 = .ok (.invokevirtual 46, 3) := by decide +kernel
theorem dL_law_523 : decode cL_law 523 = .ok (.iload 7, 2) := by decide +kernel
theorem dL_law_525 : decode cL_law 525 = .ok (.iconst 1, 1) := by decide +kernel
theorem dL_law_526 : decode cL_law 526 = .ok (.isub, 1) := by decide +kernel
theorem dL_law_527 : decode cL_law 527 = .ok (.if_icmp .eq 5, 3) := by decide +kernel
theorem dL_law_530 : decode cL_law 530 = .ok (.iconst 0, 1) := by decide +kernel
theorem dL_law_531 : decode cL_law 531 = .ok (.ireturn, 1) := by decide +kernel
theorem dL_law_532 : decode cL_law 532 = .ok (.iinc 6 1, 3) := by decide +kernel
theorem dL_law_535 : decode cL_law 535 = .ok (.goto (-59), 3) := by decide +kernel
theorem dL_law_538 : decode cL_law 538 = .ok (.iconst 0, 1) := by decide +kernel
theorem dL_law_539 : decode cL_law 539 = .ok (.istore 6, 2) := by decide +kernel
theorem dL_law_541 : decode cL_law 541 = .ok (.iload 6, 2) := by decide +kernel
theorem dL_law_543 : decode cL_law 543 = .ok (.bipush 6, 2) := by decide +kernel
theorem dL_law_545 : decode cL_law 545 = .ok (.if_icmp .ge 27, 3) := by decide +kernel
theorem dL_law_548 : decode cL_law 548 = .ok (.aload_n 1, 1) := by decide +kernel
theorem dL_law_549 : decode cL_law 549 = .ok (.bipush 8, 2) := by decide +kernel
theorem dL_law_551 : decode cL_law 551 = .ok (.invokevirtual 61, 3) := by decide +kernel
theorem dL_law_554 : decode cL_law 554 = .ok (.ifCond .le 18, 3) := by decide +kernel
theorem dL_law_557 : decode cL_law 557 = .ok (.aload_n 1, 1) := by decide +kernel
theorem dL_law_558 : decode cL_law 558 = .ok (.invokevirtual 46, 3) := by decide +kernel
theorem dL_law_561 : decode cL_law 561 = .ok (.ifCond .ge 5, 3) := by decide +kernel
theorem dL_law_564 : decode cL_law 564 = .ok (.iconst 0, 1) := by decide +kernel
theorem dL_law_565 : decode cL_law 565 = .ok (.ireturn, 1) := by decide +kernel
theorem dL_law_566 : decode cL_law 566 = .ok (.iinc 6 1, 3) := by decide +kernel
theorem dL_law_569 : decode cL_law 569 = .ok (.goto (-28), 3) := by decide +kernel
theorem dL_law_572 : decode cL_law 572 = .ok (.aload_n 1, 1) := by decide +kernel
theorem dL_law_573 : decode cL_law 573 = .ok (.bipush 10, 2) := by decide +kernel
theorem dL_law_575 : decode cL_law 575 = .ok (.iconst 0, 1) := by decide +kernel
theorem dL_law_576 : decode cL_law 576 = .ok (.iconst 0, 1) := by decide +kernel
theorem dL_law_577 : decode cL_law 577 = .ok (.iconst 0, 1) := by decide +kernel
theorem dL_law_578 : decode cL_law 578 = .ok (.iconst 0, 1) := by decide +kernel
theorem dL_law_579 : decode cL_law 579 = .ok (.invokestatic 97, 3) := by decide +kernel
theorem dL_law_582 : decode cL_law 582 = .ok (.bipush (-13), 2) := by decide +kernel
theorem dL_law_584 : decode cL_law 584 = .ok (.if_icmp .ne 36, 3) := by decide +kernel
theorem dL_law_587 : decode cL_law 587 = .ok (.aload_n 1, 1) := by decide +kernel
theorem dL_law_588 : decode cL_law 588 = .ok (.iconst 1, 1) := by decide +kernel
theorem dL_law_589 : decode cL_law 589 = .ok (.invokevirtual 43, 3) := by decide +kernel
theorem dL_law_592 : decode cL_law 592 = .ok (.iconst 4, 1) := by decide +kernel
theorem dL_law_593 : decode cL_law 593 = .ok (.if_icmp .ne 27, 3) := by decide +kernel
theorem dL_law_596 : decode cL_law 596 = .ok (.aload_n 1, 1) := by decide +kernel
theorem dL_law_597 : decode cL_law 597 = .ok (.invokestatic 102, 3) := by decide +kernel
theorem dL_law_600 : decode cL_law 600 = .ok (.lload 4, 2) := by decide +kernel
theorem dL_law_602 : decode cL_law 602 = .ok (.lcmp, 1) := by decide +kernel
theorem dL_law_603 : decode cL_law 603 = .ok (.ifCond .ne 17, 3) := by decide +kernel
theorem dL_law_606 : decode cL_law 606 = .ok (.aload_n 1, 1) := by decide +kernel
theorem dL_law_607 : decode cL_law 607 = .ok (.bipush 8, 2) := by decide +kernel
theorem dL_law_609 : decode cL_law 609 = .ok (.invokevirtual 61, 3) := by decide +kernel
theorem dL_law_612 : decode cL_law 612 = .ok (.iconst 1, 1) := by decide +kernel
theorem dL_law_613 : decode cL_law 613 = .ok (.if_icmp .ne 7, 3) := by decide +kernel
theorem dL_law_616 : decode cL_law 616 = .ok (.iconst 1, 1) := by decide +kernel
theorem dL_law_617 : decode cL_law 617 = .ok (.goto 4, 3) := by decide +kernel
theorem dL_law_620 : decode cL_law 620 = .ok (.iconst 0, 1) := by decide +kernel
theorem dL_law_621 : decode cL_law 621 = .ok (.ireturn, 1) := by decide +kernel
