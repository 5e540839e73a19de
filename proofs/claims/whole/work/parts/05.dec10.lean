theorem d_LW_law_709 : decode code 709 = .ok (.iadd, 1) := by decide +kernel
theorem d_LW_law_710 : decode code 710 = .ok (.iaload, 1) := by decide +kernel
theorem d_LW_law_711 : decode code 711 = .ok (.aload_n 0, 1) := by decide +kernel
theorem d_LW_law_712 : decode code 712 = .ok (.iload 4, 2) := by decide +kernel
theorem d_LW_law_714 : decode code 714 = .ok (.iconst 2, 1) := by decide +kernel
theorem d_LW_law_715 : decode code 715 = .ok (.iadd, 1) := by decide +kernel
theorem d_LW_law_716 : decode code 716 = .ok (.iaload, 1) := by decide +kernel
theorem d_LW_law_717 : decode code 717 = .ok (.aload_n 3, 1) := by decide +kernel
theorem d_LW_law_718 : decode code 718 = .ok (.invokestatic 128, 3) := by decide +kernel
theorem d_LW_law_721 : decode code 721 = .ok (.istore 5, 2) := by decide +kernel
theorem d_LW_law_723 : decode code 723 = .ok (.aload_n 2, 1) := by decide +kernel
theorem d_LW_law_724 : decode code 724 = .ok (.aload_n 0, 1) := by decide +kernel
theorem d_LW_law_725 : decode code 725 = .ok (.iload 4, 2) := by decide +kernel
theorem d_LW_law_727 : decode code 727 = .ok (.iconst 1, 1) := by decide +kernel
theorem d_LW_law_728 : decode code 728 = .ok (.iadd, 1) := by decide +kernel
theorem d_LW_law_729 : decode code 729 = .ok (.iaload, 1) := by decide +kernel
theorem d_LW_law_730 : decode code 730 = .ok (.aload_n 0, 1) := by decide +kernel
theorem d_LW_law_731 : decode code 731 = .ok (.iload 4, 2) := by decide +kernel
theorem d_LW_law_733 : decode code 733 = .ok (.iconst 2, 1) := by decide +kernel
theorem d_LW_law_734 : decode code 734 = .ok (.iadd, 1) := by decide +kernel
theorem d_LW_law_735 : decode code 735 = .ok (.iaload, 1) := by decide +kernel
theorem d_LW_law_736 : decode code 736 = .ok (.invokevirtual 130, 3) := by decide +kernel
theorem d_LW_law_739 : decode code 739 = .ok (.istore 6, 2) := by decide +kernel
theorem d_LW_law_741 : decode code 741 = .ok (.aload_n 2, 1) := by decide +kernel
theorem d_LW_law_742 : decode code 742 = .ok (.invokevirtual 93, 3) := by decide +kernel
theorem d_LW_law_745 : decode code 745 = .ok (.iload 5, 2) := by decide +kernel
theorem d_LW_law_747 : decode code 747 = .ok (.if_icmp .eq 5, 3) := by decide +kernel
theorem d_LW_law_750 : decode code 750 = .ok (.iconst 0, 1) := by decide +kernel
theorem d_LW_law_751 : decode code 751 = .ok (.ireturn, 1) := by decide +kernel
theorem d_LW_law_752 : decode code 752 = .ok (.iload 5, 2) := by decide +kernel
theorem d_LW_law_754 : decode code 754 = .ok (.ifCond .ne 15, 3) := by decide +kernel
theorem d_LW_law_757 : decode code 757 = .ok (.aload_n 3, 1) := by decide +kernel
theorem d_LW_law_758 : decode code 758 = .ok (.iconst 0, 1) := by decide +kernel
theorem d_LW_law_759 : decode code 759 = .ok (.laload, 1) := by decide +kernel
theorem d_LW_law_760 : decode code 760 = .ok (.iload 6, 2) := by decide +kernel
theorem d_LW_law_762 : decode code 762 = .ok (.i2l, 1) := by decide +kernel
theorem d_LW_law_763 : decode code 763 = .ok (.lcmp, 1) := by decide +kernel
theorem d_LW_law_764 : decode code 764 = .ok (.ifCond .eq 5, 3) := by decide +kernel
theorem d_LW_law_767 : decode code 767 = .ok (.iconst 0, 1) := by decide +kernel
theorem d_LW_law_768 : decode code 768 = .ok (.ireturn, 1) := by decide +kernel
theorem d_LW_law_769 : decode code 769 = .ok (.goto 535, 3) := by decide +kernel
theorem d_LW_law_772 : decode code 772 = .ok (.aload_n 1, 1) := by decide +kernel
theorem d_LW_law_773 : decode code 773 = .ok (.aload_n 0, 1) := by decide +kernel
theorem d_LW_law_774 : decode code 774 = .ok (.iload 4, 2) := by decide +kernel
theorem d_LW_law_776 : decode code 776 = .ok (.iconst 1, 1) := by decide +kernel
theorem d_LW_law_777 : decode code 777 = .ok (.iadd, 1) := by decide +kernel
theorem d_LW_law_778 : decode code 778 = .ok (.iaload, 1) := by decide +kernel
theorem d_LW_law_779 : decode code 779 = .ok (.aload_n 0, 1) := by decide +kernel
theorem d_LW_law_780 : decode code 780 = .ok (.iload 4, 2) := by decide +kernel
theorem d_LW_law_782 : decode code 782 = .ok (.iconst 2, 1) := by decide +kernel
theorem d_LW_law_783 : decode code 783 = .ok (.iadd, 1) := by decide +kernel
theorem d_LW_law_784 : decode code 784 = .ok (.iaload, 1) := by decide +kernel
theorem d_LW_law_785 : decode code 785 = .ok (.aload_n 3, 1) := by decide +kernel
theorem d_LW_law_786 : decode code 786 = .ok (.invokestatic 131, 3) := by decide +kernel
theorem d_LW_law_789 : decode code 789 = .ok (.istore 5, 2) := by decide +kernel
theorem d_LW_law_791 : decode code 791 = .ok (.aload_n 2, 1) := by decide +kernel
theorem d_LW_law_792 : decode code 792 = .ok (.aload_n 0, 1) := by decide +kernel
theorem d_LW_law_793 : decode code 793 = .ok (.iload 4, 2) := by decide +kernel
theorem d_LW_law_795 : decode code 795 = .ok (.iconst 1, 1) := by decide +kernel
theorem d_LW_law_796 : decode code 796 = .ok (.iadd, 1) := by decide +kernel
theorem d_LW_law_797 : decode code 797 = .ok (.iaload, 1) := by decide +kernel
theorem d_LW_law_798 : decode code 798 = .ok (.aload_n 0, 1) := by decide +kernel
theorem d_LW_law_799 : decode code 799 = .ok (.iload 4, 2) := by decide +kernel
theorem d_LW_law_801 : decode code 801 = .ok (.iconst 2, 1) := by decide +kernel
theorem d_LW_law_802 : decode code 802 = .ok (.iadd, 1) := by decide +kernel
theorem d_LW_law_803 : decode code 803 = .ok (.iaload, 1) := by decide +kernel
theorem d_LW_law_804 : decode code 804 = .ok (.invokevirtual 133, 3) := by decide +kernel
theorem d_LW_law_807 : decode code 807 = .ok (.istore 6, 2) := by decide +kernel
theorem d_LW_law_809 : decode code 809 = .ok (.aload_n 2, 1) := by decide +kernel
theorem d_LW_law_810 : decode code 810 = .ok (.invokevirtual 93, 3) := by decide +kernel
theorem d_LW_law_813 : decode code 813 = .ok (.iload 5, 2) := by decide +kernel
theorem d_LW_law_815 : decode code 815 = .ok (.if_icmp .eq 5, 3) := by decide +kernel
theorem d_LW_law_818 : decode code 818 = .ok (.iconst 0, 1) := by decide +kernel
theorem d_LW_law_819 : decode code 819 = .ok (.ireturn, 1) := by decide +kernel
theorem d_LW_law_820 : decode code 820 = .ok (.iload 5, 2) := by decide +kernel
theorem d_LW_law_822 : decode code 822 = .ok (.ifCond .ne 15, 3) := by decide +kernel
theorem d_LW_law_825 : decode code 825 = .ok (.aload_n 3, 1) := by decide +kernel
theorem d_LW_law_826 : decode code 826 = .ok (.iconst 0, 1) := by decide +kernel
theorem d_LW_law_827 : decode code 827 = .ok (.laload, 1) := by decide +kernel
theorem d_LW_law_828 : decode code 828 = .ok (.iload 6, 2) := by decide +kernel
theorem d_LW_law_830 : decode code 830 = .ok (.i2l, 1) := by decide +kernel
theorem d_LW_law_831 : decode code 831 = .ok (.lcmp, 1) := by decide +kernel
theorem d_LW_law_832 : decode code 832 = .ok (.ifCond .eq 5, 3) := by decide +kernel
theorem d_LW_law_835 : decode code 835 = .ok (.iconst 0, 1) := by decide +kernel
theorem d_LW_law_836 : decode code 836 = .ok (.ireturn, 1) := by decide +kernel
theorem d_LW_law_837 : decode code 837 = .ok (.goto 467, 3) := by decide +kernel
theorem d_LW_law_840 : decode code 840 = .ok (.aload_n 1, 1) := by decide +kernel
theorem d_LW_law_841 : decode code 841 = .ok (.aload_n 0, 1) := by decide +kernel
theorem d_LW_law_842 : decode code 842 = .ok (.iload 4, 2) := by decide +kernel
theorem d_LW_law_844 : decode code 844 = .ok (.iconst 1, 1) := by decide +kernel
theorem d_LW_law_845 : decode code 845 = .ok (.iadd, 1) := by decide +kernel
theorem d_LW_law_846 : decode code 846 = .ok (.iaload, 1) := by decide +kernel
theorem d_LW_law_847 : decode code 847 = .ok (.invokestatic 134, 3) := by decide +kernel
theorem d_LW_law_850 : decode code 850 = .ok (.istore 5, 2) := by decide +kernel
theorem d_LW_law_852 : decode code 852 = .ok (.aload_n 2, 1) := by decide +kernel
theorem d_LW_law_853 : decode code 853 = .ok (.aload_n 0, 1) := by decide +kernel
theorem d_LW_law_854 : decode code 854 = .ok (.iload 4, 2) := by decide +kernel
theorem d_LW_law_856 : decode code 856 = .ok (.iconst 1, 1) := by decide +kernel
theorem d_LW_law_857 : decode code 857 = .ok (.iadd, 1) := by decide +kernel
theorem d_LW_law_858 : decode code 858 = .ok (.iaload, 1) := by decide +kernel
theorem d_LW_law_859 : decode code 859 = .ok (.invokevirtual 136, 3) := by decide +kernel
theorem d_LW_law_862 : decode code 862 = .ok (.aload_n 2, 1) := by decide +kernel
theorem d_LW_law_863 : decode code 863 = .ok (.invokevirtual 93, 3) := by decide +kernel
theorem d_LW_law_866 : decode code 866 = .ok (.iload 5, 2) := by decide +kernel
theorem d_LW_law_868 : decode code 868 = .ok (.if_icmp .eq 5, 3) := by decide +kernel
theorem d_LW_law_871 : decode code 871 = .ok (.iconst 0, 1) := by decide +kernel
theorem d_LW_law_872 : decode code 872 = .ok (.ireturn, 1) := by decide +kernel
theorem d_LW_law_873 : decode code 873 = .ok (.goto 431, 3) := by decide +kernel
theorem d_LW_law_876 : decode code 876 = .ok (.aload_n 1, 1) := by decide +kernel
theorem d_LW_law_877 : decode code 877 = .ok (.aload_n 0, 1) := by decide +kernel
theorem d_LW_law_878 : decode code 878 = .ok (.iload 4, 2) := by decide +kernel
theorem d_LW_law_880 : decode code 880 = .ok (.iconst 1, 1) := by decide +kernel
theorem d_LW_law_881 : decode code 881 = .ok (.iadd, 1) := by decide +kernel
theorem d_LW_law_882 : decode code 882 = .ok (.iaload, 1) := by decide +kernel
theorem d_LW_law_883 : decode code 883 = .ok (.aload_n 0, 1) := by decide +kernel
theorem d_LW_law_884 : decode code 884 = .ok (.iload 4, 2) := by decide +kernel
theorem d_LW_law_886 : decode code 886 = .ok (.iconst 2, 1) := by decide +kernel
theorem d_LW_law_887 : decode code 887 = .ok (.iadd, 1) := by decide +kernel
theorem d_LW_law_888 : decode code 888 = .ok (.iaload, 1) := by decide +kernel
theorem d_LW_law_889 : decode code 889 = .ok (.aload_n 3, 1) := by decide +kernel
theorem d_LW_law_890 : decode code 890 = .ok (.invokestatic 137, 3) := by decide +kernel
theorem d_LW_law_893 : decode code 893 = .ok (.istore 5, 2) := by decide +kernel
theorem d_LW_law_895 : decode code 895 = .ok (.aload_n 2, 1) := by decide +kernel
theorem d_LW_law_896 : decode code 896 = .ok (.aload_n 0, 1) := by decide +kernel
theorem d_LW_law_897 : decode code 897 = .ok (.iload 4, 2) := by decide +kernel
theorem d_LW_law_899 : decode code 899 = .ok (.iconst 1, 1) := by decide +kernel
theorem d_LW_law_900 : decode code 900 = .ok (.iadd, 1) := by decide +kernel
theorem d_LW_law_901 : decode code 901 = .ok (.iaload, 1) := by decide +kernel
theorem d_LW_law_902 : decode code 902 = .ok (.aload_n 0, 1) := by decide +kernel
theorem d_LW_law_903 : decode code 903 = .ok (.iload 4, 2) := by decide +kernel
theorem d_LW_law_905 : decode code 905 = .ok (.iconst 2, 1) := by decide +kernel
theorem d_LW_law_906 : decode code 906 = .ok (.iadd, 1) := by decide +kernel
theorem d_LW_law_907 : decode code 907 = .ok (.iaload, 1) := by decide +kernel
theorem d_LW_law_908 : decode code 908 = .ok (.invokevirtual 139, 3) := by decide +kernel
theorem d_LW_law_911 : decode code 911 = .ok (.istore 6, 2) := by decide +kernel
theorem d_LW_law_913 : decode code 913 = .ok (.aload_n 2, 1) := by decide +kernel
theorem d_LW_law_914 : decode code 914 = .ok (.invokevirtual 93, 3) := by decide +kernel
theorem d_LW_law_917 : decode code 917 = .ok (.iload 5, 2) := by decide +kernel
theorem d_LW_law_919 : decode code 919 = .ok (.if_icmp .eq 5, 3) := by decide +kernel
theorem d_LW_law_922 : decode code 922 = .ok (.iconst 0, 1) := by decide +kernel
theorem d_LW_law_923 : decode code 923 = .ok (.ireturn, 1) := by decide +kernel
theorem d_LW_law_924 : decode code 924 = .ok (.iload 5, 2) := by decide +kernel
theorem d_LW_law_926 : decode code 926 = .ok (.ifCond .ne 15, 3) := by decide +kernel
theorem d_LW_law_929 : decode code 929 = .ok (.aload_n 3, 1) := by decide +kernel
theorem d_LW_law_930 : decode code 930 = .ok (.iconst 0, 1) := by decide +kernel
theorem d_LW_law_931 : decode code 931 = .ok (.laload, 1) := by decide +kernel
theorem d_LW_law_932 : decode code 932 = .ok (.iload 6, 2) := by decide +kernel
theorem d_LW_law_934 : decode code 934 = .ok (.i2l, 1) := by decide +kernel
theorem d_LW_law_935 : decode code 935 = .ok (.lcmp, 1) := by decide +kernel
theorem d_LW_law_936 : decode code 936 = .ok (.ifCond .eq 5, 3) := by decide +kernel
theorem d_LW_law_939 : decode code 939 = .ok (.iconst 0, 1) := by decide +kernel
theorem d_LW_law_940 : decode code 940 = .ok (.ireturn, 1) := by decide +kernel
theorem d_LW_law_941 : decode code 941 = .ok (.goto 363, 3) := by decide +kernel
theorem d_LW_law_944 : decode code 944 = .ok (.aload_n 1, 1) := by decide +kernel
theorem d_LW_law_945 : decode code 945 = .ok (.aload_n 0, 1) := by decide +kernel
theorem d_LW_law_946 : decode code 946 = .ok (.iload 4, 2) := by decide +kernel
theorem d_LW_law_948 : decode code 948 = .ok (.iconst 1, 1) := by decide +kernel
theorem d_LW_law_949 : decode code 949 = .ok (.iadd, 1) := by decide +kernel
theorem d_LW_law_950 : decode code 950 = .ok (.iaload, 1) := by decide +kernel
theorem d_LW_law_951 : decode code 951 = .ok (.aload_n 3, 1) := by decide +kernel
theorem d_LW_law_952 : decode code 952 = .ok (.invokestatic 140, 3) := by decide +kernel
theorem d_LW_law_955 : decode code 955 = .ok (.istore 5, 2) := by decide +kernel
theorem d_LW_law_957 : decode code 957 = .ok (.aload_n 2, 1) := by decide +kernel
theorem d_LW_law_958 : decode code 958 = .ok (.aload_n 0, 1) := by decide +kernel
theorem d_LW_law_959 : decode code 959 = .ok (.iload 4, 2) := by decide +kernel
theorem d_LW_law_961 : decode code 961 = .ok (.iconst 1, 1) := by decide +kernel
theorem d_LW_law_962 : decode code 962 = .ok (.iadd, 1) := by decide +kernel
theorem d_LW_law_963 : decode code 963 = .ok (.iaload, 1) := by decide +kernel
theorem d_LW_law_964 : decode code 964 = .ok (.invokevirtual 142, 3) := by decide +kernel
theorem d_LW_law_967 : decode code 967 = .ok (.istore 6, 2) := by decide +kernel
theorem d_LW_law_969 : decode code 969 = .ok (.aload_n 2, 1) := by decide +kernel
theorem d_LW_law_970 : decode code 970 = .ok (.invokevirtual 93, 3) := by decide +kernel
theorem d_LW_law_973 : decode code 973 = .ok (.iload 5, 2) := by decide +kernel
theorem d_LW_law_975 : decode code 975 = .ok (.if_icmp .eq 5, 3) := by decide +kernel
theorem d_LW_law_978 : decode code 978 = .ok (.iconst 0, 1) := by decide +kernel
theorem d_LW_law_979 : decode code 979 = .ok (.ireturn, 1) := by decide +kernel
theorem d_LW_law_980 : decode code 980 = .ok (.iload 5, 2) := by decide +kernel
theorem d_LW_law_982 : decode code 982 = .ok (.ifCond .ne 15, 3) := by decide +kernel
theorem d_LW_law_985 : decode code 985 = .ok (.aload_n 3, 1) := by decide +kernel
theorem d_LW_law_986 : decode code 986 = .ok (.iconst 0, 1) := by decide +kernel
theorem d_LW_law_987 : decode code 987 = .ok (.laload, 1) := by decide +kernel
theorem d_LW_law_988 : decode code 988 = .ok (.iload 6, 2) := by decide +kernel
theorem d_LW_law_990 : decode code 990 = .ok (.i2l, 1) := by decide +kernel
theorem d_LW_law_991 : decode code 991 = .ok (.lcmp, 1) := by decide +kernel
theorem d_LW_law_992 : decode code 992 = .ok (.ifCond .eq 5, 3) := by decide +kernel
theorem d_LW_law_995 : decode code 995 = .ok (.iconst 0, 1) := by decide +kernel
theorem d_LW_law_996 : decode code 996 = .ok (.ireturn, 1) := by decide +kernel
theorem d_LW_law_997 : decode code 997 = .ok (.goto 307, 3) := by decide +kernel
theorem d_LW_law_1000 : decode code 1000 = .ok (.aload_n 1, 1) := by decide +kernel
theorem d_LW_law_1001 : decode code 1001 = .ok (.aload_n 0, 1) := by decide +kernel
theorem d_LW_law_1002 : decode code 1002 = .ok (.iload 4, 2) := by decide +kernel
theorem d_LW_law_1004 : decode code 1004 = .ok (.iconst 1, 1) := by decide +kernel
theorem d_LW_law_1005 : decode code 1005 = .ok (.iadd, 1) := by decide +kernel
theorem d_LW_law_1006 : decode code 1006 = .ok (.iaload, 1) := by decide +kernel
theorem d_LW_law_1007 : decode code 1007 = .ok (.aload_n 3, 1) := by decide +kernel
theorem d_LW_law_1008 : decode code 1008 = .ok (.invokestatic 143, 3) := by decide +kernel
theorem d_LW_law_1011 : decode code 1011 = .ok (.istore 5, 2) := by decide +kernel
theorem d_LW_law_1013 : decode code 1013 = .ok (.aload_n 2, 1) := by decide +kernel
theorem d_LW_law_1014 : decode code 1014 = .ok (.aload_n 0, 1) := by decide +kernel
theorem d_LW_law_1015 : decode code 1015 = .ok (.iload 4, 2) := by decide +kernel
