theorem dq_W_law_762 : decode code 762 = .ok (.iaload, 1) := by decide +kernel
theorem dq_W_law_763 : decode code 763 = .ok (.i2l, 1) := by decide +kernel
theorem dq_W_law_764 : decode code 764 = .ok (.bipush 32, 2) := by decide +kernel
theorem dq_W_law_766 : decode code 766 = .ok (.lshl, 1) := by decide +kernel
theorem dq_W_law_767 : decode code 767 = .ok (.aload_n 0, 1) := by decide +kernel
theorem dq_W_law_768 : decode code 768 = .ok (.iload_n 3, 1) := by decide +kernel
theorem dq_W_law_769 : decode code 769 = .ok (.iconst 4, 1) := by decide +kernel
theorem dq_W_law_770 : decode code 770 = .ok (.iadd, 1) := by decide +kernel
theorem dq_W_law_771 : decode code 771 = .ok (.iaload, 1) := by decide +kernel
theorem dq_W_law_772 : decode code 772 = .ok (.i2l, 1) := by decide +kernel
theorem dq_W_law_773 : decode code 773 = .ok (.ldc2_w 13, 3) := by decide +kernel
theorem dq_W_law_776 : decode code 776 = .ok (.land, 1) := by decide +kernel
theorem dq_W_law_777 : decode code 777 = .ok (.lor, 1) := by decide +kernel
theorem dq_W_law_778 : decode code 778 = .ok (.aload_n 0, 1) := by decide +kernel
theorem dq_W_law_779 : decode code 779 = .ok (.iload_n 3, 1) := by decide +kernel
theorem dq_W_law_780 : decode code 780 = .ok (.iconst 5, 1) := by decide +kernel
theorem dq_W_law_781 : decode code 781 = .ok (.iadd, 1) := by decide +kernel
theorem dq_W_law_782 : decode code 782 = .ok (.iaload, 1) := by decide +kernel
theorem dq_W_law_783 : decode code 783 = .ok (.i2l, 1) := by decide +kernel
theorem dq_W_law_784 : decode code 784 = .ok (.bipush 32, 2) := by decide +kernel
theorem dq_W_law_786 : decode code 786 = .ok (.lshl, 1) := by decide +kernel
theorem dq_W_law_787 : decode code 787 = .ok (.aload_n 0, 1) := by decide +kernel
theorem dq_W_law_788 : decode code 788 = .ok (.iload_n 3, 1) := by decide +kernel
theorem dq_W_law_789 : decode code 789 = .ok (.bipush 6, 2) := by decide +kernel
theorem dq_W_law_791 : decode code 791 = .ok (.iadd, 1) := by decide +kernel
theorem dq_W_law_792 : decode code 792 = .ok (.iaload, 1) := by decide +kernel
theorem dq_W_law_793 : decode code 793 = .ok (.i2l, 1) := by decide +kernel
theorem dq_W_law_794 : decode code 794 = .ok (.ldc2_w 13, 3) := by decide +kernel
theorem dq_W_law_797 : decode code 797 = .ok (.land, 1) := by decide +kernel
theorem dq_W_law_798 : decode code 798 = .ok (.lor, 1) := by decide +kernel
theorem dq_W_law_799 : decode code 799 = .ok (.aload_n 0, 1) := by decide +kernel
theorem dq_W_law_800 : decode code 800 = .ok (.iload_n 3, 1) := by decide +kernel
theorem dq_W_law_801 : decode code 801 = .ok (.bipush 7, 2) := by decide +kernel
theorem dq_W_law_803 : decode code 803 = .ok (.iadd, 1) := by decide +kernel
theorem dq_W_law_804 : decode code 804 = .ok (.iaload, 1) := by decide +kernel
theorem dq_W_law_805 : decode code 805 = .ok (.i2l, 1) := by decide +kernel
theorem dq_W_law_806 : decode code 806 = .ok (.bipush 32, 2) := by decide +kernel
theorem dq_W_law_808 : decode code 808 = .ok (.lshl, 1) := by decide +kernel
theorem dq_W_law_809 : decode code 809 = .ok (.aload_n 0, 1) := by decide +kernel
theorem dq_W_law_810 : decode code 810 = .ok (.iload_n 3, 1) := by decide +kernel
theorem dq_W_law_811 : decode code 811 = .ok (.bipush 8, 2) := by decide +kernel
theorem dq_W_law_813 : decode code 813 = .ok (.iadd, 1) := by decide +kernel
theorem dq_W_law_814 : decode code 814 = .ok (.iaload, 1) := by decide +kernel
theorem dq_W_law_815 : decode code 815 = .ok (.i2l, 1) := by decide +kernel
theorem dq_W_law_816 : decode code 816 = .ok (.ldc2_w 13, 3) := by decide +kernel
theorem dq_W_law_819 : decode code 819 = .ok (.land, 1) := by decide +kernel
theorem dq_W_law_820 : decode code 820 = .ok (.lor, 1) := by decide +kernel
theorem dq_W_law_821 : decode code 821 = .ok (.aload_n 0, 1) := by decide +kernel
theorem dq_W_law_822 : decode code 822 = .ok (.iload_n 3, 1) := by decide +kernel
theorem dq_W_law_823 : decode code 823 = .ok (.bipush 9, 2) := by decide +kernel
theorem dq_W_law_825 : decode code 825 = .ok (.iadd, 1) := by decide +kernel
theorem dq_W_law_826 : decode code 826 = .ok (.iaload, 1) := by decide +kernel
theorem dq_W_law_827 : decode code 827 = .ok (.i2l, 1) := by decide +kernel
theorem dq_W_law_828 : decode code 828 = .ok (.bipush 32, 2) := by decide +kernel
theorem dq_W_law_830 : decode code 830 = .ok (.lshl, 1) := by decide +kernel
theorem dq_W_law_831 : decode code 831 = .ok (.aload_n 0, 1) := by decide +kernel
theorem dq_W_law_832 : decode code 832 = .ok (.iload_n 3, 1) := by decide +kernel
theorem dq_W_law_833 : decode code 833 = .ok (.bipush 10, 2) := by decide +kernel
theorem dq_W_law_835 : decode code 835 = .ok (.iadd, 1) := by decide +kernel
theorem dq_W_law_836 : decode code 836 = .ok (.iaload, 1) := by decide +kernel
theorem dq_W_law_837 : decode code 837 = .ok (.i2l, 1) := by decide +kernel
theorem dq_W_law_838 : decode code 838 = .ok (.ldc2_w 13, 3) := by decide +kernel
theorem dq_W_law_841 : decode code 841 = .ok (.land, 1) := by decide +kernel
theorem dq_W_law_842 : decode code 842 = .ok (.lor, 1) := by decide +kernel
theorem dq_W_law_843 : decode code 843 = .ok (.invokevirtual 61, 3) := by decide +kernel
theorem dq_W_law_846 : decode code 846 = .ok (.aload_n 2, 1) := by decide +kernel
theorem dq_W_law_847 : decode code 847 = .ok (.aload_n 0, 1) := by decide +kernel
theorem dq_W_law_848 : decode code 848 = .ok (.iload_n 3, 1) := by decide +kernel
theorem dq_W_law_849 : decode code 849 = .ok (.iconst 1, 1) := by decide +kernel
theorem dq_W_law_850 : decode code 850 = .ok (.iadd, 1) := by decide +kernel
theorem dq_W_law_851 : decode code 851 = .ok (.iaload, 1) := by decide +kernel
theorem dq_W_law_852 : decode code 852 = .ok (.aload_n 0, 1) := by decide +kernel
theorem dq_W_law_853 : decode code 853 = .ok (.iload_n 3, 1) := by decide +kernel
theorem dq_W_law_854 : decode code 854 = .ok (.iconst 2, 1) := by decide +kernel
theorem dq_W_law_855 : decode code 855 = .ok (.iadd, 1) := by decide +kernel
theorem dq_W_law_856 : decode code 856 = .ok (.iaload, 1) := by decide +kernel
theorem dq_W_law_857 : decode code 857 = .ok (.aload_n 0, 1) := by decide +kernel
theorem dq_W_law_858 : decode code 858 = .ok (.iload_n 3, 1) := by decide +kernel
theorem dq_W_law_859 : decode code 859 = .ok (.iconst 3, 1) := by decide +kernel
theorem dq_W_law_860 : decode code 860 = .ok (.iadd, 1) := by decide +kernel
theorem dq_W_law_861 : decode code 861 = .ok (.iaload, 1) := by decide +kernel
theorem dq_W_law_862 : decode code 862 = .ok (.i2l, 1) := by decide +kernel
theorem dq_W_law_863 : decode code 863 = .ok (.bipush 32, 2) := by decide +kernel
theorem dq_W_law_865 : decode code 865 = .ok (.lshl, 1) := by decide +kernel
theorem dq_W_law_866 : decode code 866 = .ok (.aload_n 0, 1) := by decide +kernel
theorem dq_W_law_867 : decode code 867 = .ok (.iload_n 3, 1) := by decide +kernel
theorem dq_W_law_868 : decode code 868 = .ok (.iconst 4, 1) := by decide +kernel
theorem dq_W_law_869 : decode code 869 = .ok (.iadd, 1) := by decide +kernel
theorem dq_W_law_870 : decode code 870 = .ok (.iaload, 1) := by decide +kernel
theorem dq_W_law_871 : decode code 871 = .ok (.i2l, 1) := by decide +kernel
theorem dq_W_law_872 : decode code 872 = .ok (.ldc2_w 13, 3) := by decide +kernel
theorem dq_W_law_875 : decode code 875 = .ok (.land, 1) := by decide +kernel
theorem dq_W_law_876 : decode code 876 = .ok (.lor, 1) := by decide +kernel
theorem dq_W_law_877 : decode code 877 = .ok (.aload_n 0, 1) := by decide +kernel
theorem dq_W_law_878 : decode code 878 = .ok (.iload_n 3, 1) := by decide +kernel
theorem dq_W_law_879 : decode code 879 = .ok (.iconst 5, 1) := by decide +kernel
theorem dq_W_law_880 : decode code 880 = .ok (.iadd, 1) := by decide +kernel
theorem dq_W_law_881 : decode code 881 = .ok (.iaload, 1) := by decide +kernel
theorem dq_W_law_882 : decode code 882 = .ok (.i2l, 1) := by decide +kernel
theorem dq_W_law_883 : decode code 883 = .ok (.bipush 32, 2) := by decide +kernel
theorem dq_W_law_885 : decode code 885 = .ok (.lshl, 1) := by decide +kernel
theorem dq_W_law_886 : decode code 886 = .ok (.aload_n 0, 1) := by decide +kernel
theorem dq_W_law_887 : decode code 887 = .ok (.iload_n 3, 1) := by decide +kernel
theorem dq_W_law_888 : decode code 888 = .ok (.bipush 6, 2) := by decide +kernel
theorem dq_W_law_890 : decode code 890 = .ok (.iadd, 1) := by decide +kernel
theorem dq_W_law_891 : decode code 891 = .ok (.iaload, 1) := by decide +kernel
theorem dq_W_law_892 : decode code 892 = .ok (.i2l, 1) := by decide +kernel
theorem dq_W_law_893 : decode code 893 = .ok (.ldc2_w 13, 3) := by decide +kernel
theorem dq_W_law_896 : decode code 896 = .ok (.land, 1) := by decide +kernel
theorem dq_W_law_897 : decode code 897 = .ok (.lor, 1) := by decide +kernel
theorem dq_W_law_898 : decode code 898 = .ok (.aload_n 0, 1) := by decide +kernel
theorem dq_W_law_899 : decode code 899 = .ok (.iload_n 3, 1) := by decide +kernel
theorem dq_W_law_900 : decode code 900 = .ok (.bipush 7, 2) := by decide +kernel
theorem dq_W_law_902 : decode code 902 = .ok (.iadd, 1) := by decide +kernel
theorem dq_W_law_903 : decode code 903 = .ok (.iaload, 1) := by decide +kernel
theorem dq_W_law_904 : decode code 904 = .ok (.i2l, 1) := by decide +kernel
theorem dq_W_law_905 : decode code 905 = .ok (.bipush 32, 2) := by decide +kernel
theorem dq_W_law_907 : decode code 907 = .ok (.lshl, 1) := by decide +kernel
theorem dq_W_law_908 : decode code 908 = .ok (.aload_n 0, 1) := by decide +kernel
theorem dq_W_law_909 : decode code 909 = .ok (.iload_n 3, 1) := by decide +kernel
theorem dq_W_law_910 : decode code 910 = .ok (.bipush 8, 2) := by decide +kernel
theorem dq_W_law_912 : decode code 912 = .ok (.iadd, 1) := by decide +kernel
theorem dq_W_law_913 : decode code 913 = .ok (.iaload, 1) := by decide +kernel
theorem dq_W_law_914 : decode code 914 = .ok (.i2l, 1) := by decide +kernel
theorem dq_W_law_915 : decode code 915 = .ok (.ldc2_w 13, 3) := by decide +kernel
theorem dq_W_law_918 : decode code 918 = .ok (.land, 1) := by decide +kernel
theorem dq_W_law_919 : decode code 919 = .ok (.lor, 1) := by decide +kernel
theorem dq_W_law_920 : decode code 920 = .ok (.aload_n 0, 1) := by decide +kernel
theorem dq_W_law_921 : decode code 921 = .ok (.iload_n 3, 1) := by decide +kernel
theorem dq_W_law_922 : decode code 922 = .ok (.bipush 9, 2) := by decide +kernel
theorem dq_W_law_924 : decode code 924 = .ok (.iadd, 1) := by decide +kernel
theorem dq_W_law_925 : decode code 925 = .ok (.iaload, 1) := by decide +kernel
theorem dq_W_law_926 : decode code 926 = .ok (.i2l, 1) := by decide +kernel
theorem dq_W_law_927 : decode code 927 = .ok (.bipush 32, 2) := by decide +kernel
theorem dq_W_law_929 : decode code 929 = .ok (.lshl, 1) := by decide +kernel
theorem dq_W_law_930 : decode code 930 = .ok (.aload_n 0, 1) := by decide +kernel
theorem dq_W_law_931 : decode code 931 = .ok (.iload_n 3, 1) := by decide +kernel
theorem dq_W_law_932 : decode code 932 = .ok (.bipush 10, 2) := by decide +kernel
theorem dq_W_law_934 : decode code 934 = .ok (.iadd, 1) := by decide +kernel
theorem dq_W_law_935 : decode code 935 = .ok (.iaload, 1) := by decide +kernel
theorem dq_W_law_936 : decode code 936 = .ok (.i2l, 1) := by decide +kernel
theorem dq_W_law_937 : decode code 937 = .ok (.ldc2_w 13, 3) := by decide +kernel
theorem dq_W_law_940 : decode code 940 = .ok (.land, 1) := by decide +kernel
theorem dq_W_law_941 : decode code 941 = .ok (.lor, 1) := by decide +kernel
theorem dq_W_law_942 : decode code 942 = .ok (.invokevirtual 65, 3) := by decide +kernel
theorem dq_W_law_945 : decode code 945 = .ok (.if_icmp .eq 809, 3) := by decide +kernel
theorem dq_W_law_948 : decode code 948 = .ok (.iconst 0, 1) := by decide +kernel
theorem dq_W_law_949 : decode code 949 = .ok (.ireturn, 1) := by decide +kernel
theorem dq_W_law_950 : decode code 950 = .ok (.aload_n 1, 1) := by decide +kernel
theorem dq_W_law_951 : decode code 951 = .ok (.aload_n 0, 1) := by decide +kernel
theorem dq_W_law_952 : decode code 952 = .ok (.iload_n 3, 1) := by decide +kernel
theorem dq_W_law_953 : decode code 953 = .ok (.iconst 1, 1) := by decide +kernel
theorem dq_W_law_954 : decode code 954 = .ok (.iadd, 1) := by decide +kernel
theorem dq_W_law_955 : decode code 955 = .ok (.iaload, 1) := by decide +kernel
theorem dq_W_law_956 : decode code 956 = .ok (.invokevirtual 66, 3) := by decide +kernel
theorem dq_W_law_959 : decode code 959 = .ok (.aload_n 2, 1) := by decide +kernel
theorem dq_W_law_960 : decode code 960 = .ok (.aload_n 0, 1) := by decide +kernel
theorem dq_W_law_961 : decode code 961 = .ok (.iload_n 3, 1) := by decide +kernel
theorem dq_W_law_962 : decode code 962 = .ok (.iconst 1, 1) := by decide +kernel
theorem dq_W_law_963 : decode code 963 = .ok (.iadd, 1) := by decide +kernel
theorem dq_W_law_964 : decode code 964 = .ok (.iaload, 1) := by decide +kernel
theorem dq_W_law_965 : decode code 965 = .ok (.invokevirtual 70, 3) := by decide +kernel
theorem dq_W_law_968 : decode code 968 = .ok (.if_icmp .eq 786, 3) := by decide +kernel
theorem dq_W_law_971 : decode code 971 = .ok (.iconst 0, 1) := by decide +kernel
theorem dq_W_law_972 : decode code 972 = .ok (.ireturn, 1) := by decide +kernel
theorem dq_W_law_973 : decode code 973 = .ok (.aload_n 1, 1) := by decide +kernel
theorem dq_W_law_974 : decode code 974 = .ok (.aload_n 0, 1) := by decide +kernel
theorem dq_W_law_975 : decode code 975 = .ok (.iload_n 3, 1) := by decide +kernel
theorem dq_W_law_976 : decode code 976 = .ok (.iconst 1, 1) := by decide +kernel
theorem dq_W_law_977 : decode code 977 = .ok (.iadd, 1) := by decide +kernel
theorem dq_W_law_978 : decode code 978 = .ok (.iaload, 1) := by decide +kernel
theorem dq_W_law_979 : decode code 979 = .ok (.aload_n 0, 1) := by decide +kernel
theorem dq_W_law_980 : decode code 980 = .ok (.iload_n 3, 1) := by decide +kernel
theorem dq_W_law_981 : decode code 981 = .ok (.iconst 2, 1) := by decide +kernel
theorem dq_W_law_982 : decode code 982 = .ok (.iadd, 1) := by decide +kernel
theorem dq_W_law_983 : decode code 983 = .ok (.iaload, 1) := by decide +kernel
theorem dq_W_law_984 : decode code 984 = .ok (.invokevirtual 71, 3) := by decide +kernel
theorem dq_W_law_987 : decode code 987 = .ok (.aload_n 2, 1) := by decide +kernel
theorem dq_W_law_988 : decode code 988 = .ok (.aload_n 0, 1) := by decide +kernel
theorem dq_W_law_989 : decode code 989 = .ok (.iload_n 3, 1) := by decide +kernel
theorem dq_W_law_990 : decode code 990 = .ok (.iconst 1, 1) := by decide +kernel
theorem dq_W_law_991 : decode code 991 = .ok (.iadd, 1) := by decide +kernel
theorem dq_W_law_992 : decode code 992 = .ok (.iaload, 1) := by decide +kernel
theorem dq_W_law_993 : decode code 993 = .ok (.aload_n 0, 1) := by decide +kernel
theorem dq_W_law_994 : decode code 994 = .ok (.iload_n 3, 1) := by decide +kernel
theorem dq_W_law_995 : decode code 995 = .ok (.iconst 2, 1) := by decide +kernel
theorem dq_W_law_996 : decode code 996 = .ok (.iadd, 1) := by decide +kernel
theorem dq_W_law_997 : decode code 997 = .ok (.iaload, 1) := by decide +kernel
theorem dq_W_law_998 : decode code 998 = .ok (.invokevirtual 75, 3) := by decide +kernel
theorem dq_W_law_1001 : decode code 1001 = .ok (.if_icmp .eq 753, 3) := by decide +kernel
theorem dq_W_law_1004 : decode code 1004 = .ok (.iconst 0, 1) := by decide +kernel
theorem dq_W_law_1005 : decode code 1005 = .ok (.ireturn, 1) := by decide +kernel
theorem dq_W_law_1006 : decode code 1006 = .ok (.aload_n 1, 1) := by decide +kernel
theorem dq_W_law_1007 : decode code 1007 = .ok (.aload_n 0, 1) := by decide +kernel
theorem dq_W_law_1008 : decode code 1008 = .ok (.iload_n 3, 1) := by decide +kernel
theorem dq_W_law_1009 : decode code 1009 = .ok (.iconst 1, 1) := by decide +kernel
theorem dq_W_law_1010 : decode code 1010 = .ok (.iadd, 1) := by decide +kernel
theorem dq_W_law_1011 : decode code 1011 = .ok (.iaload, 1) := by decide +kernel
theorem dq_W_law_1012 : decode code 1012 = .ok (.invokevirtual 76, 3) := by decide +kernel
theorem dq_W_law_1015 : decode code 1015 = .ok (.aload_n 2, 1) := by decide +kernel
theorem dq_W_law_1016 : decode code 1016 = .ok (.aload_n 0, 1) := by decide +kernel
theorem dq_W_law_1017 : decode code 1017 = .ok (.iload_n 3, 1) := by decide +kernel
theorem dq_W_law_1018 : decode code 1018 = .ok (.iconst 1, 1) := by decide +kernel
theorem dq_W_law_1019 : decode code 1019 = .ok (.iadd, 1) := by decide +kernel
theorem dq_W_law_1020 : decode code 1020 = .ok (.iaload, 1) := by decide +kernel
theorem dq_W_law_1021 : decode code 1021 = .ok (.invokevirtual 79, 3) := by decide +kernel
theorem dq_W_law_1024 : decode code 1024 = .ok (.lcmp, 1) := by decide +kernel
theorem dq_W_law_1025 : decode code 1025 = .ok (.ifCond .eq 729, 3) := by decide +kernel
theorem dq_W_law_1028 : decode code 1028 = .ok (.iconst 0, 1) := by decide +kernel
theorem dq_W_law_1029 : decode code 1029 = .ok (.ireturn, 1) := by decide +kernel
theorem dq_W_law_1030 : decode code 1030 = .ok (.aload_n 1, 1) := by decide +kernel
theorem dq_W_law_1031 : decode code 1031 = .ok (.aload_n 0, 1) := by decide +kernel
theorem dq_W_law_1032 : decode code 1032 = .ok (.iload_n 3, 1) := by decide +kernel
theorem dq_W_law_1033 : decode code 1033 = .ok (.iconst 1, 1) := by decide +kernel
theorem dq_W_law_1034 : decode code 1034 = .ok (.iadd, 1) := by decide +kernel
theorem dq_W_law_1035 : decode code 1035 = .ok (.iaload, 1) := by decide +kernel
theorem dq_W_law_1036 : decode code 1036 = .ok (.aload_n 0, 1) := by decide +kernel
theorem dq_W_law_1037 : decode code 1037 = .ok (.iload_n 3, 1) := by decide +kernel
theorem dq_W_law_1038 : decode code 1038 = .ok (.iconst 2, 1) := by decide +kernel
theorem dq_W_law_1039 : decode code 1039 = .ok (.iadd, 1) := by decide +kernel
theorem dq_W_law_1040 : decode code 1040 = .ok (.iaload, 1) := by decide +kernel
theorem dq_W_law_1041 : decode code 1041 = .ok (.invokevirtual 80, 3) := by decide +kernel
theorem dq_W_law_1044 : decode code 1044 = .ok (.aload_n 2, 1) := by decide +kernel
theorem dq_W_law_1045 : decode code 1045 = .ok (.aload_n 0, 1) := by decide +kernel
theorem dq_W_law_1046 : decode code 1046 = .ok (.iload_n 3, 1) := by decide +kernel
theorem dq_W_law_1047 : decode code 1047 = .ok (.iconst 1, 1) := by decide +kernel
theorem dq_W_law_1048 : decode code 1048 = .ok (.iadd, 1) := by decide +kernel
theorem dq_W_law_1049 : decode code 1049 = .ok (.iaload, 1) := by decide +kernel
theorem dq_W_law_1050 : decode code 1050 = .ok (.aload_n 0, 1) := by decide +kernel
theorem dq_W_law_1051 : decode code 1051 = .ok (.iload_n 3, 1) := by decide +kernel
theorem dq_W_law_1052 : decode code 1052 = .ok (.iconst 2, 1) := by decide +kernel
theorem dq_W_law_1053 : decode code 1053 = .ok (.iadd, 1) := by decide +kernel
theorem dq_W_law_1054 : decode code 1054 = .ok (.iaload, 1) := by decide +kernel
theorem dq_W_law_1055 : decode code 1055 = .ok (.invokevirtual 83, 3) := by decide +kernel
theorem dq_W_law_1058 : decode code 1058 = .ok (.if_icmp .eq 696, 3) := by decide +kernel
theorem dq_W_law_1061 : decode code 1061 = .ok (.iconst 0, 1) := by decide +kernel
theorem dq_W_law_1062 : decode code 1062 = .ok (.ireturn, 1) := by decide +kernel
theorem dq_W_law_1063 : decode code 1063 = .ok (.aload_n 1, 1) := by decide +kernel
theorem dq_W_law_1064 : decode code 1064 = .ok (.aload_n 0, 1) := by decide +kernel
theorem dq_W_law_1065 : decode code 1065 = .ok (.iload_n 3, 1) := by decide +kernel
theorem dq_W_law_1066 : decode code 1066 = .ok (.iconst 1, 1) := by decide +kernel
theorem dq_W_law_1067 : decode code 1067 = .ok (.iadd, 1) := by decide +kernel
theorem dq_W_law_1068 : decode code 1068 = .ok (.iaload, 1) := by decide +kernel
theorem dq_W_law_1069 : decode code 1069 = .ok (.aload_n 0, 1) := by decide +kernel
theorem dq_W_law_1070 : decode code 1070 = .ok (.iload_n 3, 1) := by decide +kernel
theorem dq_W_law_1071 : decode code 1071 = .ok (.iconst 2, 1) := by decide +kernel
theorem dq_W_law_1072 : decode code 1072 = .ok (.iadd, 1) := by decide +kernel
theorem dq_W_law_1073 : decode code 1073 = .ok (.iaload, 1) := by decide +kernel
theorem dq_W_law_1074 : decode code 1074 = .ok (.aload_n 0, 1) := by decide +kernel
theorem dq_W_law_1075 : decode code 1075 = .ok (.iload_n 3, 1) := by decide +kernel
theorem dq_W_law_1076 : decode code 1076 = .ok (.iconst 3, 1) := by decide +kernel
theorem dq_W_law_1077 : decode code 1077 = .ok (.iadd, 1) := by decide +kernel
theorem dq_W_law_1078 : decode code 1078 = .ok (.iaload, 1) := by decide +kernel
theorem dq_W_law_1079 : decode code 1079 = .ok (.i2l, 1) := by decide +kernel
theorem dq_W_law_1080 : decode code 1080 = .ok (.bipush 32, 2) := by decide +kernel
theorem dq_W_law_1082 : decode code 1082 = .ok (.lshl, 1) := by decide +kernel
theorem dq_W_law_1083 : decode code 1083 = .ok (.aload_n 0, 1) := by decide +kernel
theorem dq_W_law_1084 : decode code 1084 = .ok (.iload_n 3, 1) := by decide +kernel
theorem dq_W_law_1085 : decode code 1085 = .ok (.iconst 4, 1) := by decide +kernel
theorem dq_W_law_1086 : decode code 1086 = .ok (.iadd, 1) := by decide +kernel
