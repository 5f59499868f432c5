theorem d_L_law_746 : decode mL_law.2.1 746 = .ok (.aload_n 0, 1) := by decide +kernel
theorem d_L_law_747 : decode mL_law.2.1 747 = .ok (.iload 5, 2) := by decide +kernel
theorem d_L_law_749 : decode mL_law.2.1 749 = .ok (.iconst 2, 1) := by decide +kernel
theorem d_L_law_750 : decode mL_law.2.1 750 = .ok (.iadd, 1) := by decide +kernel
theorem d_L_law_751 : decode mL_law.2.1 751 = .ok (.iaload, 1) := by decide +kernel
theorem d_L_law_752 : decode mL_law.2.1 752 = .ok (.invokevirtual 166, 3) := by decide +kernel
theorem d_L_law_755 : decode mL_law.2.1 755 = .ok (.istore 7, 2) := by decide +kernel
theorem d_L_law_757 : decode mL_law.2.1 757 = .ok (.aload_n 2, 1) := by decide +kernel
theorem d_L_law_758 : decode mL_law.2.1 758 = .ok (.invokevirtual 140, 3) := by decide +kernel
theorem d_L_law_761 : decode mL_law.2.1 761 = .ok (.iload 6, 2) := by decide +kernel
theorem d_L_law_763 : decode mL_law.2.1 763 = .ok (.if_icmp .eq 5, 3) := by decide +kernel
theorem d_L_law_766 : decode mL_law.2.1 766 = .ok (.iconst 0, 1) := by decide +kernel
theorem d_L_law_767 : decode mL_law.2.1 767 = .ok (.ireturn, 1) := by decide +kernel
theorem d_L_law_768 : decode mL_law.2.1 768 = .ok (.iload 6, 2) := by decide +kernel
theorem d_L_law_770 : decode mL_law.2.1 770 = .ok (.ifCond .ne 15, 3) := by decide +kernel
theorem d_L_law_773 : decode mL_law.2.1 773 = .ok (.aload_n 3, 1) := by decide +kernel
theorem d_L_law_774 : decode mL_law.2.1 774 = .ok (.iconst 0, 1) := by decide +kernel
theorem d_L_law_775 : decode mL_law.2.1 775 = .ok (.laload, 1) := by decide +kernel
theorem d_L_law_776 : decode mL_law.2.1 776 = .ok (.iload 7, 2) := by decide +kernel
theorem d_L_law_778 : decode mL_law.2.1 778 = .ok (.i2l, 1) := by decide +kernel
theorem d_L_law_779 : decode mL_law.2.1 779 = .ok (.lcmp, 1) := by decide +kernel
theorem d_L_law_780 : decode mL_law.2.1 780 = .ok (.ifCond .eq 5, 3) := by decide +kernel
theorem d_L_law_783 : decode mL_law.2.1 783 = .ok (.iconst 0, 1) := by decide +kernel
theorem d_L_law_784 : decode mL_law.2.1 784 = .ok (.ireturn, 1) := by decide +kernel
theorem d_L_law_785 : decode mL_law.2.1 785 = .ok (.goto 1749, 3) := by decide +kernel
theorem d_L_law_788 : decode mL_law.2.1 788 = .ok (.aload_n 1, 1) := by decide +kernel
theorem d_L_law_789 : decode mL_law.2.1 789 = .ok (.aload_n 0, 1) := by decide +kernel
theorem d_L_law_790 : decode mL_law.2.1 790 = .ok (.iload 5, 2) := by decide +kernel
theorem d_L_law_792 : decode mL_law.2.1 792 = .ok (.iconst 1, 1) := by decide +kernel
theorem d_L_law_793 : decode mL_law.2.1 793 = .ok (.iadd, 1) := by decide +kernel
theorem d_L_law_794 : decode mL_law.2.1 794 = .ok (.iaload, 1) := by decide +kernel
theorem d_L_law_795 : decode mL_law.2.1 795 = .ok (.aload_n 0, 1) := by decide +kernel
theorem d_L_law_796 : decode mL_law.2.1 796 = .ok (.iload 5, 2) := by decide +kernel
theorem d_L_law_798 : decode mL_law.2.1 798 = .ok (.iconst 2, 1) := by decide +kernel
theorem d_L_law_799 : decode mL_law.2.1 799 = .ok (.iadd, 1) := by decide +kernel
theorem d_L_law_800 : decode mL_law.2.1 800 = .ok (.iaload, 1) := by decide +kernel
theorem d_L_law_801 : decode mL_law.2.1 801 = .ok (.aload_n 3, 1) := by decide +kernel
theorem d_L_law_802 : decode mL_law.2.1 802 = .ok (.invokestatic 167, 3) := by decide +kernel
theorem d_L_law_805 : decode mL_law.2.1 805 = .ok (.istore 6, 2) := by decide +kernel
theorem d_L_law_807 : decode mL_law.2.1 807 = .ok (.aload_n 2, 1) := by decide +kernel
theorem d_L_law_808 : decode mL_law.2.1 808 = .ok (.aload_n 0, 1) := by decide +kernel
theorem d_L_law_809 : decode mL_law.2.1 809 = .ok (.iload 5, 2) := by decide +kernel
theorem d_L_law_811 : decode mL_law.2.1 811 = .ok (.iconst 1, 1) := by decide +kernel
theorem d_L_law_812 : decode mL_law.2.1 812 = .ok (.iadd, 1) := by decide +kernel
theorem d_L_law_813 : decode mL_law.2.1 813 = .ok (.iaload, 1) := by decide +kernel
theorem d_L_law_814 : decode mL_law.2.1 814 = .ok (.aload_n 0, 1) := by decide +kernel
theorem d_L_law_815 : decode mL_law.2.1 815 = .ok (.iload 5, 2) := by decide +kernel
theorem d_L_law_817 : decode mL_law.2.1 817 = .ok (.iconst 2, 1) := by decide +kernel
theorem d_L_law_818 : decode mL_law.2.1 818 = .ok (.iadd, 1) := by decide +kernel
theorem d_L_law_819 : decode mL_law.2.1 819 = .ok (.iaload, 1) := by decide +kernel
theorem d_L_law_820 : decode mL_law.2.1 820 = .ok (.invokevirtual 169, 3) := by decide +kernel
theorem d_L_law_823 : decode mL_law.2.1 823 = .ok (.istore 7, 2) := by decide +kernel
theorem d_L_law_825 : decode mL_law.2.1 825 = .ok (.aload_n 2, 1) := by decide +kernel
theorem d_L_law_826 : decode mL_law.2.1 826 = .ok (.invokevirtual 140, 3) := by decide +kernel
theorem d_L_law_829 : decode mL_law.2.1 829 = .ok (.iload 6, 2) := by decide +kernel
theorem d_L_law_831 : decode mL_law.2.1 831 = .ok (.if_icmp .eq 5, 3) := by decide +kernel
theorem d_L_law_834 : decode mL_law.2.1 834 = .ok (.iconst 0, 1) := by decide +kernel
theorem d_L_law_835 : decode mL_law.2.1 835 = .ok (.ireturn, 1) := by decide +kernel
theorem d_L_law_836 : decode mL_law.2.1 836 = .ok (.iload 6, 2) := by decide +kernel
theorem d_L_law_838 : decode mL_law.2.1 838 = .ok (.ifCond .ne 15, 3) := by decide +kernel
theorem d_L_law_841 : decode mL_law.2.1 841 = .ok (.aload_n 3, 1) := by decide +kernel
theorem d_L_law_842 : decode mL_law.2.1 842 = .ok (.iconst 0, 1) := by decide +kernel
theorem d_L_law_843 : decode mL_law.2.1 843 = .ok (.laload, 1) := by decide +kernel
theorem d_L_law_844 : decode mL_law.2.1 844 = .ok (.iload 7, 2) := by decide +kernel
theorem d_L_law_846 : decode mL_law.2.1 846 = .ok (.i2l, 1) := by decide +kernel
theorem d_L_law_847 : decode mL_law.2.1 847 = .ok (.lcmp, 1) := by decide +kernel
theorem d_L_law_848 : decode mL_law.2.1 848 = .ok (.ifCond .eq 5, 3) := by decide +kernel
theorem d_L_law_851 : decode mL_law.2.1 851 = .ok (.iconst 0, 1) := by decide +kernel
theorem d_L_law_852 : decode mL_law.2.1 852 = .ok (.ireturn, 1) := by decide +kernel
theorem d_L_law_853 : decode mL_law.2.1 853 = .ok (.goto 1681, 3) := by decide +kernel
theorem d_L_law_856 : decode mL_law.2.1 856 = .ok (.aload_n 1, 1) := by decide +kernel
theorem d_L_law_857 : decode mL_law.2.1 857 = .ok (.aload_n 0, 1) := by decide +kernel
theorem d_L_law_858 : decode mL_law.2.1 858 = .ok (.iload 5, 2) := by decide +kernel
theorem d_L_law_860 : decode mL_law.2.1 860 = .ok (.iconst 1, 1) := by decide +kernel
theorem d_L_law_861 : decode mL_law.2.1 861 = .ok (.iadd, 1) := by decide +kernel
theorem d_L_law_862 : decode mL_law.2.1 862 = .ok (.iaload, 1) := by decide +kernel
theorem d_L_law_863 : decode mL_law.2.1 863 = .ok (.aload_n 0, 1) := by decide +kernel
theorem d_L_law_864 : decode mL_law.2.1 864 = .ok (.iload 5, 2) := by decide +kernel
theorem d_L_law_866 : decode mL_law.2.1 866 = .ok (.iconst 2, 1) := by decide +kernel
theorem d_L_law_867 : decode mL_law.2.1 867 = .ok (.iadd, 1) := by decide +kernel
theorem d_L_law_868 : decode mL_law.2.1 868 = .ok (.iaload, 1) := by decide +kernel
theorem d_L_law_869 : decode mL_law.2.1 869 = .ok (.aload_n 3, 1) := by decide +kernel
theorem d_L_law_870 : decode mL_law.2.1 870 = .ok (.invokestatic 170, 3) := by decide +kernel
theorem d_L_law_873 : decode mL_law.2.1 873 = .ok (.istore 6, 2) := by decide +kernel
theorem d_L_law_875 : decode mL_law.2.1 875 = .ok (.aload_n 2, 1) := by decide +kernel
theorem d_L_law_876 : decode mL_law.2.1 876 = .ok (.aload_n 0, 1) := by decide +kernel
theorem d_L_law_877 : decode mL_law.2.1 877 = .ok (.iload 5, 2) := by decide +kernel
theorem d_L_law_879 : decode mL_law.2.1 879 = .ok (.iconst 1, 1) := by decide +kernel
theorem d_L_law_880 : decode mL_law.2.1 880 = .ok (.iadd, 1) := by decide +kernel
theorem d_L_law_881 : decode mL_law.2.1 881 = .ok (.iaload, 1) := by decide +kernel
theorem d_L_law_882 : decode mL_law.2.1 882 = .ok (.aload_n 0, 1) := by decide +kernel
theorem d_L_law_883 : decode mL_law.2.1 883 = .ok (.iload 5, 2) := by decide +kernel
theorem d_L_law_885 : decode mL_law.2.1 885 = .ok (.iconst 2, 1) := by decide +kernel
theorem d_L_law_886 : decode mL_law.2.1 886 = .ok (.iadd, 1) := by decide +kernel
theorem d_L_law_887 : decode mL_law.2.1 887 = .ok (.iaload, 1) := by decide +kernel
theorem d_L_law_888 : decode mL_law.2.1 888 = .ok (.invokevirtual 172, 3) := by decide +kernel
theorem d_L_law_891 : decode mL_law.2.1 891 = .ok (.istore 7, 2) := by decide +kernel
theorem d_L_law_893 : decode mL_law.2.1 893 = .ok (.aload_n 2, 1) := by decide +kernel
theorem d_L_law_894 : decode mL_law.2.1 894 = .ok (.invokevirtual 140, 3) := by decide +kernel
theorem d_L_law_897 : decode mL_law.2.1 897 = .ok (.iload 6, 2) := by decide +kernel
theorem d_L_law_899 : decode mL_law.2.1 899 = .ok (.if_icmp .eq 5, 3) := by decide +kernel
theorem d_L_law_902 : decode mL_law.2.1 902 = .ok (.iconst 0, 1) := by decide +kernel
theorem d_L_law_903 : decode mL_law.2.1 903 = .ok (.ireturn, 1) := by decide +kernel
theorem d_L_law_904 : decode mL_law.2.1 904 = .ok (.iload 6, 2) := by decide +kernel
theorem d_L_law_906 : decode mL_law.2.1 906 = .ok (.ifCond .ne 15, 3) := by decide +kernel
theorem d_L_law_909 : decode mL_law.2.1 909 = .ok (.aload_n 3, 1) := by decide +kernel
theorem d_L_law_910 : decode mL_law.2.1 910 = .ok (.iconst 0, 1) := by decide +kernel
theorem d_L_law_911 : decode mL_law.2.1 911 = .ok (.laload, 1) := by decide +kernel
theorem d_L_law_912 : decode mL_law.2.1 912 = .ok (.iload 7, 2) := by decide +kernel
theorem d_L_law_914 : decode mL_law.2.1 914 = .ok (.i2l, 1) := by decide +kernel
theorem d_L_law_915 : decode mL_law.2.1 915 = .ok (.lcmp, 1) := by decide +kernel
theorem d_L_law_916 : decode mL_law.2.1 916 = .ok (.ifCond .eq 5, 3) := by decide +kernel
theorem d_L_law_919 : decode mL_law.2.1 919 = .ok (.iconst 0, 1) := by decide +kernel
theorem d_L_law_920 : decode mL_law.2.1 920 = .ok (.ireturn, 1) := by decide +kernel
theorem d_L_law_921 : decode mL_law.2.1 921 = .ok (.goto 1613, 3) := by decide +kernel
theorem d_L_law_924 : decode mL_law.2.1 924 = .ok (.aload_n 1, 1) := by decide +kernel
theorem d_L_law_925 : decode mL_law.2.1 925 = .ok (.aload_n 0, 1) := by decide +kernel
theorem d_L_law_926 : decode mL_law.2.1 926 = .ok (.iload 5, 2) := by decide +kernel
theorem d_L_law_928 : decode mL_law.2.1 928 = .ok (.iconst 1, 1) := by decide +kernel
theorem d_L_law_929 : decode mL_law.2.1 929 = .ok (.iadd, 1) := by decide +kernel
theorem d_L_law_930 : decode mL_law.2.1 930 = .ok (.iaload, 1) := by decide +kernel
theorem d_L_law_931 : decode mL_law.2.1 931 = .ok (.aload_n 0, 1) := by decide +kernel
theorem d_L_law_932 : decode mL_law.2.1 932 = .ok (.iload 5, 2) := by decide +kernel
theorem d_L_law_934 : decode mL_law.2.1 934 = .ok (.iconst 2, 1) := by decide +kernel
theorem d_L_law_935 : decode mL_law.2.1 935 = .ok (.iadd, 1) := by decide +kernel
theorem d_L_law_936 : decode mL_law.2.1 936 = .ok (.iaload, 1) := by decide +kernel
theorem d_L_law_937 : decode mL_law.2.1 937 = .ok (.aload_n 3, 1) := by decide +kernel
theorem d_L_law_938 : decode mL_law.2.1 938 = .ok (.invokestatic 173, 3) := by decide +kernel
theorem d_L_law_941 : decode mL_law.2.1 941 = .ok (.istore 6, 2) := by decide +kernel
theorem d_L_law_943 : decode mL_law.2.1 943 = .ok (.aload_n 2, 1) := by decide +kernel
theorem d_L_law_944 : decode mL_law.2.1 944 = .ok (.aload_n 0, 1) := by decide +kernel
theorem d_L_law_945 : decode mL_law.2.1 945 = .ok (.iload 5, 2) := by decide +kernel
theorem d_L_law_947 : decode mL_law.2.1 947 = .ok (.iconst 1, 1) := by decide +kernel
theorem d_L_law_948 : decode mL_law.2.1 948 = .ok (.iadd, 1) := by decide +kernel
theorem d_L_law_949 : decode mL_law.2.1 949 = .ok (.iaload, 1) := by decide +kernel
theorem d_L_law_950 : decode mL_law.2.1 950 = .ok (.aload_n 0, 1) := by decide +kernel
theorem d_L_law_951 : decode mL_law.2.1 951 = .ok (.iload 5, 2) := by decide +kernel
theorem d_L_law_953 : decode mL_law.2.1 953 = .ok (.iconst 2, 1) := by decide +kernel
theorem d_L_law_954 : decode mL_law.2.1 954 = .ok (.iadd, 1) := by decide +kernel
theorem d_L_law_955 : decode mL_law.2.1 955 = .ok (.iaload, 1) := by decide +kernel
theorem d_L_law_956 : decode mL_law.2.1 956 = .ok (.invokevirtual 175, 3) := by decide +kernel
theorem d_L_law_959 : decode mL_law.2.1 959 = .ok (.istore 7, 2) := by decide +kernel
theorem d_L_law_961 : decode mL_law.2.1 961 = .ok (.aload_n 2, 1) := by decide +kernel
theorem d_L_law_962 : decode mL_law.2.1 962 = .ok (.invokevirtual 140, 3) := by decide +kernel
theorem d_L_law_965 : decode mL_law.2.1 965 = .ok (.iload 6, 2) := by decide +kernel
theorem d_L_law_967 : decode mL_law.2.1 967 = .ok (.if_icmp .eq 5, 3) := by decide +kernel
theorem d_L_law_970 : decode mL_law.2.1 970 = .ok (.iconst 0, 1) := by decide +kernel
theorem d_L_law_971 : decode mL_law.2.1 971 = .ok (.ireturn, 1) := by decide +kernel
theorem d_L_law_972 : decode mL_law.2.1 972 = .ok (.iload 6, 2) := by decide +kernel
theorem d_L_law_974 : decode mL_law.2.1 974 = .ok (.ifCond .ne 15, 3) := by decide +kernel
theorem d_L_law_977 : decode mL_law.2.1 977 = .ok (.aload_n 3, 1) := by decide +kernel
theorem d_L_law_978 : decode mL_law.2.1 978 = .ok (.iconst 0, 1) := by decide +kernel
theorem d_L_law_979 : decode mL_law.2.1 979 = .ok (.laload, 1) := by decide +kernel
theorem d_L_law_980 : decode mL_law.2.1 980 = .ok (.iload 7, 2) := by decide +kernel
theorem d_L_law_982 : decode mL_law.2.1 982 = .ok (.i2l, 1) := by decide +kernel
theorem d_L_law_983 : decode mL_law.2.1 983 = .ok (.lcmp, 1) := by decide +kernel
theorem d_L_law_984 : decode mL_law.2.1 984 = .ok (.ifCond .eq 5, 3) := by decide +kernel
theorem d_L_law_987 : decode mL_law.2.1 987 = .ok (.iconst 0, 1) := by decide +kernel
theorem d_L_law_988 : decode mL_law.2.1 988 = .ok (.ireturn, 1) := by decide +kernel
theorem d_L_law_989 : decode mL_law.2.1 989 = .ok (.goto 1545, 3) := by decide +kernel
theorem d_L_law_992 : decode mL_law.2.1 992 = .ok (.aload_n 1, 1) := by decide +kernel
theorem d_L_law_993 : decode mL_law.2.1 993 = .ok (.aload_n 0, 1) := by decide +kernel
theorem d_L_law_994 : decode mL_law.2.1 994 = .ok (.iload 5, 2) := by decide +kernel
theorem d_L_law_996 : decode mL_law.2.1 996 = .ok (.iconst 1, 1) := by decide +kernel
theorem d_L_law_997 : decode mL_law.2.1 997 = .ok (.iadd, 1) := by decide +kernel
theorem d_L_law_998 : decode mL_law.2.1 998 = .ok (.iaload, 1) := by decide +kernel
theorem d_L_law_999 : decode mL_law.2.1 999 = .ok (.aload_n 0, 1) := by decide +kernel
theorem d_L_law_1000 : decode mL_law.2.1 1000 = .ok (.iload 5, 2) := by decide +kernel
theorem d_L_law_1002 : decode mL_law.2.1 1002 = .ok (.iconst 2, 1) := by decide +kernel
theorem d_L_law_1003 : decode mL_law.2.1 1003 = .ok (.iadd, 1) := by decide +kernel
theorem d_L_law_1004 : decode mL_law.2.1 1004 = .ok (.iaload, 1) := by decide +kernel
theorem d_L_law_1005 : decode mL_law.2.1 1005 = .ok (.aload_n 0, 1) := by decide +kernel
theorem d_L_law_1006 : decode mL_law.2.1 1006 = .ok (.iload 5, 2) := by decide +kernel
theorem d_L_law_1008 : decode mL_law.2.1 1008 = .ok (.iconst 3, 1) := by decide +kernel
theorem d_L_law_1009 : decode mL_law.2.1 1009 = .ok (.iadd, 1) := by decide +kernel
theorem d_L_law_1010 : decode mL_law.2.1 1010 = .ok (.iaload, 1) := by decide +kernel
theorem d_L_law_1011 : decode mL_law.2.1 1011 = .ok (.aload_n 0, 1) := by decide +kernel
theorem d_L_law_1012 : decode mL_law.2.1 1012 = .ok (.iload 5, 2) := by decide +kernel
theorem d_L_law_1014 : decode mL_law.2.1 1014 = .ok (.iconst 4, 1) := by decide +kernel
theorem d_L_law_1015 : decode mL_law.2.1 1015 = .ok (.iadd, 1) := by decide +kernel
theorem d_L_law_1016 : decode mL_law.2.1 1016 = .ok (.iaload, 1) := by decide +kernel
theorem d_L_law_1017 : decode mL_law.2.1 1017 = .ok (.aload_n 3, 1) := by decide +kernel
theorem d_L_law_1018 : decode mL_law.2.1 1018 = .ok (.invokestatic 176, 3) := by decide +kernel
theorem d_L_law_1021 : decode mL_law.2.1 1021 = .ok (.istore 6, 2) := by decide +kernel
theorem d_L_law_1023 : decode mL_law.2.1 1023 = .ok (.aload_n 2, 1) := by decide +kernel
theorem d_L_law_1024 : decode mL_law.2.1 1024 = .ok (.aload_n 0, 1) := by decide +kernel
theorem d_L_law_1025 : decode mL_law.2.1 1025 = .ok (.iload 5, 2) := by decide +kernel
theorem d_L_law_1027 : decode mL_law.2.1 1027 = .ok (.iconst 1, 1) := by decide +kernel
theorem d_L_law_1028 : decode mL_law.2.1 1028 = .ok (.iadd, 1) := by decide +kernel
theorem d_L_law_1029 : decode mL_law.2.1 1029 = .ok (.iaload, 1) := by decide +kernel
theorem d_L_law_1030 : decode mL_law.2.1 1030 = .ok (.aload_n 0, 1) := by decide +kernel
theorem d_L_law_1031 : decode mL_law.2.1 1031 = .ok (.iload 5, 2) := by decide +kernel
theorem d_L_law_1033 : decode mL_law.2.1 1033 = .ok (.iconst 2, 1) := by decide +kernel
theorem d_L_law_1034 : decode mL_law.2.1 1034 = .ok (.iadd, 1) := by decide +kernel
theorem d_L_law_1035 : decode mL_law.2.1 1035 = .ok (.iaload, 1) := by decide +kernel
theorem d_L_law_1036 : decode mL_law.2.1 1036 = .ok (.aload_n 0, 1) := by decide +kernel
theorem d_L_law_1037 : decode mL_law.2.1 1037 = .ok (.iload 5, 2) := by decide +kernel
theorem d_L_law_1039 : decode mL_law.2.1 1039 = .ok (.iconst 3, 1) := by decide +kernel
theorem d_L_law_1040 : decode mL_law.2.1 1040 = .ok (.iadd, 1) := by decide +kernel
theorem d_L_law_1041 : decode mL_law.2.1 1041 = .ok (.iaload, 1) := by decide +kernel
theorem d_L_law_1042 : decode mL_law.2.1 1042 = .ok (.aload_n 0, 1) := by decide +kernel
theorem d_L_law_1043 : decode mL_law.2.1 1043 = .ok (.iload 5, 2) := by decide +kernel
theorem d_L_law_1045 : decode mL_law.2.1 1045 = .ok (.iconst 4, 1) := by decide +kernel
theorem d_L_law_1046 : decode mL_law.2.1 1046 = .ok (.iadd, 1) := by decide +kernel
theorem d_L_law_1047 : decode mL_law.2.1 1047 = .ok (.iaload, 1) := by decide +kernel
theorem d_L_law_1048 : decode mL_law.2.1 1048 = .ok (.invokevirtual 179, 3) := by decide +kernel
theorem d_L_law_1051 : decode mL_law.2.1 1051 = .ok (.istore 7, 2) := by decide +kernel
theorem d_L_law_1053 : decode mL_law.2.1 1053 = .ok (.aload_n 2, 1) := by decide +kernel
theorem d_L_law_1054 : decode mL_law.2.1 1054 = .ok (.invokevirtual 140, 3) := by decide +kernel
theorem d_L_law_1057 : decode mL_law.2.1 1057 = .ok (.iload 6, 2) := by decide +kernel
theorem d_L_law_1059 : decode mL_law.2.1 1059 = .ok (.if_icmp .eq 5, 3) := by decide +kernel
theorem d_L_law_1062 : decode mL_law.2.1 1062 = .ok (.iconst 0, 1) := by decide +kernel
theorem d_L_law_1063 : decode mL_law.2.1 1063 = .ok (.ireturn, 1) := by decide +kernel
theorem d_L_law_1064 : decode mL_law.2.1 1064 = .ok (.iload 6, 2) := by decide +kernel
theorem d_L_law_1066 : decode mL_law.2.1 1066 = .ok (.ifCond .ne 15, 3) := by decide +kernel
theorem d_L_law_1069 : decode mL_law.2.1 1069 = .ok (.aload_n 3, 1) := by decide +kernel
theorem d_L_law_1070 : decode mL_law.2.1 1070 = .ok (.iconst 0, 1) := by decide +kernel
theorem d_L_law_1071 : decode mL_law.2.1 1071 = .ok (.laload, 1) := by decide +kernel
theorem d_L_law_1072 : decode mL_law.2.1 1072 = .ok (.iload 7, 2) := by decide +kernel
theorem d_L_law_1074 : decode mL_law.2.1 1074 = .ok (.i2l, 1) := by decide +kernel
theorem d_L_law_1075 : decode mL_law.2.1 1075 = .ok (.lcmp, 1) := by decide +kernel
theorem d_L_law_1076 : decode mL_law.2.1 1076 = .ok (.ifCond .eq 5, 3) := by decide +kernel
theorem d_L_law_1079 : decode mL_law.2.1 1079 = .ok (.iconst 0, 1) := by decide +kernel
theorem d_L_law_1080 : decode mL_law.2.1 1080 = .ok (.ireturn, 1) := by decide +kernel
theorem d_L_law_1081 : decode mL_law.2.1 1081 = .ok (.goto 1453, 3) := by decide +kernel
theorem d_L_law_1084 : decode mL_law.2.1 1084 = .ok (.aload_n 1, 1) := by decide +kernel
theorem d_L_law_1085 : decode mL_law.2.1 1085 = .ok (.aload_n 0, 1) := by decide +kernel
theorem d_L_law_1086 : decode mL_law.2.1 1086 = .ok (.iload 5, 2) := by decide +kernel
theorem d_L_law_1088 : decode mL_law.2.1 1088 = .ok (.iconst 1, 1) := by decide +kernel
theorem d_L_law_1089 : decode mL_law.2.1 1089 = .ok (.iadd, 1) := by decide +kernel
theorem d_L_law_1090 : decode mL_law.2.1 1090 = .ok (.iaload, 1) := by decide +kernel
theorem d_L_law_1091 : decode mL_law.2.1 1091 = .ok (.aload_n 3, 1) := by decide +kernel
theorem d_L_law_1092 : decode mL_law.2.1 1092 = .ok (.invokestatic 180, 3) := by decide +kernel
theorem d_L_law_1095 : decode mL_law.2.1 1095 = .ok (.istore 6, 2) := by decide +kernel
theorem d_L_law_1097 : decode mL_law.2.1 1097 = .ok (.aload_n 2, 1) := by decide +kernel
theorem d_L_law_1098 : decode mL_law.2.1 1098 = .ok (.aload_n 0, 1) := by decide +kernel
theorem d_L_law_1099 : decode mL_law.2.1 1099 = .ok (.iload 5, 2) := by decide +kernel
theorem d_L_law_1101 : decode mL_law.2.1 1101 = .ok (.iconst 1, 1) := by decide +kernel
theorem d_L_law_1102 : decode mL_law.2.1 1102 = .ok (.iadd, 1) := by decide +kernel
theorem d_L_law_1103 : decode mL_law.2.1 1103 = .ok (.iaload, 1) := by decide +kernel
theorem d_L_law_1104 : decode mL_law.2.1 1104 = .ok (.invokevirtual 182, 3) := by decide +kernel
theorem d_L_law_1107 : decode mL_law.2.1 1107 = .ok (.istore 7, 2) := by decide +kernel
theorem d_L_law_1109 : decode mL_law.2.1 1109 = .ok (.aload_n 2, 1) := by decide +kernel
theorem d_L_law_1110 : decode mL_law.2.1 1110 = .ok (.invokevirtual 140, 3) := by decide +kernel
theorem d_L_law_1113 : decode mL_law.2.1 1113 = .ok (.iload 6, 2) := by decide +kernel
theorem d_L_law_1115 : decode mL_law.2.1 1115 = .ok (.if_icmp .eq 5, 3) := by decide +kernel
theorem d_L_law_1118 : decode mL_law.2.1 1118 = .ok (.iconst 0, 1) := by decide +kernel
theorem d_L_law_1119 : decode mL_law.2.1 1119 = .ok (.ireturn, 1) := by decide +kernel
theorem d_L_law_1120 : decode mL_law.2.1 1120 = .ok (.iload 6, 2) := by decide +kernel
theorem d_L_law_1122 : decode mL_law.2.1 1122 = .ok (.ifCond .ne 15, 3) := by decide +kernel
theorem d_L_law_1125 : decode mL_law.2.1 1125 = .ok (.aload_n 3, 1) := by decide +kernel
theorem d_L_law_1126 : decode mL_law.2.1 1126 = .ok (.iconst 0, 1) := by decide +kernel
theorem d_L_law_1127 : decode mL_law.2.1 1127 = .ok (.laload, 1) := by decide +kernel
theorem d_L_law_1128 : decode mL_law.2.1 1128 = .ok (.iload 7, 2) := by decide +kernel
theorem d_L_law_1130 : decode mL_law.2.1 1130 = .ok (.i2l, 1) := by decide +kernel
theorem d_L_law_1131 : decode mL_law.2.1 1131 = .ok (.lcmp, 1) := by decide +kernel
theorem d_L_law_1132 : decode mL_law.2.1 1132 = .ok (.ifCond .eq 5, 3) := by decide +kernel
theorem d_L_law_1135 : decode mL_law.2.1 1135 = .ok (.iconst 0, 1) := by decide +kernel
theorem d_L_law_1136 : decode mL_law.2.1 1136 = .ok (.ireturn, 1) := by decide +kernel
theorem d_L_law_1137 : decode mL_law.2.1 1137 = .ok (.goto 1397, 3) := by decide +kernel
theorem d_L_law_1140 : decode mL_law.2.1 1140 = .ok (.aload_n 1, 1) := by decide +kernel
theorem d_L_law_1141 : decode mL_law.2.1 1141 = .ok (.aload_n 0, 1) := by decide +kernel
theorem d_L_law_1142 : decode mL_law.2.1 1142 = .ok (.iload 5, 2) := by decide +kernel
theorem d_L_law_1144 : decode mL_law.2.1 1144 = .ok (.iconst 1, 1) := by decide +kernel
theorem d_L_law_1145 : decode mL_law.2.1 1145 = .ok (.iadd, 1) := by decide +kernel
theorem d_L_law_1146 : decode mL_law.2.1 1146 = .ok (.iaload, 1) := by decide +kernel
theorem d_L_law_1147 : decode mL_law.2.1 1147 = .ok (.aload_n 0, 1) := by decide +kernel
theorem d_L_law_1148 : decode mL_law.2.1 1148 = .ok (.iload 5, 2) := by decide +kernel
theorem d_L_law_1150 : decode mL_law.2.1 1150 = .ok (.iconst 2, 1) := by decide +kernel
theorem d_L_law_1151 : decode mL_law.2.1 1151 = .ok (.iadd, 1) := by decide +kernel
theorem d_L_law_1152 : decode mL_law.2.1 1152 = .ok (.iaload, 1) := by decide +kernel
theorem d_L_law_1153 : decode mL_law.2.1 1153 = .ok (.aload_n 0, 1) := by decide +kernel
theorem d_L_law_1154 : decode mL_law.2.1 1154 = .ok (.iload 5, 2) := by decide +kernel
theorem d_L_law_1156 : decode mL_law.2.1 1156 = .ok (.iconst 3, 1) := by decide +kernel
theorem d_L_law_1157 : decode mL_law.2.1 1157 = .ok (.iadd, 1) := by decide +kernel
theorem d_L_law_1158 : decode mL_law.2.1 1158 = .ok (.iaload, 1) := by decide +kernel
theorem d_L_law_1159 : decode mL_law.2.1 1159 = .ok (.aload_n 0, 1) := by decide +kernel
theorem d_L_law_1160 : decode mL_law.2.1 1160 = .ok (.iload 5, 2) := by decide +kernel
theorem d_L_law_1162 : decode mL_law.2.1 1162 = .ok (.iconst 4, 1) := by decide +kernel
theorem d_L_law_1163 : decode mL_law.2.1 1163 = .ok (.iadd, 1) := by decide +kernel
theorem d_L_law_1164 : decode mL_law.2.1 1164 = .ok (.iaload, 1) := by decide +kernel
theorem d_L_law_1165 : decode mL_law.2.1 1165 = .ok (.aload_n 3, 1) := by decide +kernel
theorem d_L_law_1166 : decode mL_law.2.1 1166 = .ok (.invokestatic 183, 3) := by decide +kernel
theorem d_L_law_1169 : decode mL_law.2.1 1169 = .ok (.istore 6, 2) := by decide +kernel
theorem d_L_law_1171 : decode mL_law.2.1 1171 = .ok (.aload_n 2, 1) := by decide +kernel
theorem d_L_law_1172 : decode mL_law.2.1 1172 = .ok (.aload_n 0, 1) := by decide +kernel
theorem d_L_law_1173 : decode mL_law.2.1 1173 = .ok (.iload 5, 2) := by decide +kernel
theorem d_L_law_1175 : decode mL_law.2.1 1175 = .ok (.iconst 1, 1) := by decide +kernel
theorem d_L_law_1176 : decode mL_law.2.1 1176 = .ok (.iadd, 1) := by decide +kernel
theorem d_L_law_1177 : decode mL_law.2.1 1177 = .ok (.iaload, 1) := by decide +kernel
theorem d_L_law_1178 : decode mL_law.2.1 1178 = .ok (.aload_n 0, 1) := by decide +kernel
theorem d_L_law_1179 : decode mL_law.2.1 1179 = .ok (.iload 5, 2) := by decide +kernel
theorem d_L_law_1181 : decode mL_law.2.1 1181 = .ok (.iconst 2, 1) := by decide +kernel
theorem d_L_law_1182 : decode mL_law.2.1 1182 = .ok (.iadd, 1) := by decide +kernel
theorem d_L_law_1183 : decode mL_law.2.1 1183 = .ok (.iaload, 1) := by decide +kernel
theorem d_L_law_1184 : decode mL_law.2.1 1184 = .ok (.aload_n 0, 1) := by decide +kernel
theorem d_L_law_1185 : decode mL_law.2.1 1185 = .ok (.iload 5, 2) := by decide +kernel
theorem d_L_law_1187 : decode mL_law.2.1 1187 = .ok (.iconst 3, 1) := by decide +kernel
theorem d_L_law_1188 : decode mL_law.2.1 1188 = .ok (.iadd, 1) := by decide +kernel
theorem d_L_law_1189 : decode mL_law.2.1 1189 = .ok (.iaload, 1) := by decide +kernel
theorem d_L_law_1190 : decode mL_law.2.1 1190 = .ok (.aload_n 0, 1) := by decide +kernel
theorem d_L_law_1191 : decode mL_law.2.1 1191 = .ok (.iload 5, 2) := by decide +kernel
theorem d_L_law_1193 : decode mL_law.2.1 1193 = .ok (.iconst 4, 1) := by decide +kernel
theorem d_L_law_1194 : decode mL_law.2.1 1194 = .ok (.iadd, 1) := by decide +kernel
theorem d_L_law_1195 : decode mL_law.2.1 1195 = .ok (.iaload, 1) := by decide +kernel
theorem d_L_law_1196 : decode mL_law.2.1 1196 = .ok (.invokevirtual 185, 3) := by decide +kernel
theorem d_L_law_1199 : decode mL_law.2.1 1199 = .ok (.istore 7, 2) := by decide +kernel
theorem d_L_law_1201 : decode mL_law.2.1 1201 = .ok (.aload_n 2, 1) := by decide +kernel
theorem d_L_law_1202 : decode mL_law.2.1 1202 = .ok (.invokevirtual 140, 3) := by decide +kernel
theorem d_L_law_1205 : decode mL_law.2.1 1205 = .ok (.iload 6, 2) := by decide +kernel
theorem d_L_law_1207 : decode mL_law.2.1 1207 = .ok (.if_icmp .eq 5, 3) := by decide +kernel
theorem d_L_law_1210 : decode mL_law.2.1 1210 = .ok (.iconst 0, 1) := by decide +kernel
theorem d_L_law_1211 : decode mL_law.2.1 1211 = .ok (.ireturn, 1) := by decide +kernel
theorem d_L_law_1212 : decode mL_law.2.1 1212 = .ok (.iload 6, 2) := by decide +kernel
theorem d_L_law_1214 : decode mL_law.2.1 1214 = .ok (.ifCond .ne 15, 3) := by decide +kernel
theorem d_L_law_1217 : decode mL_law.2.1 1217 = .ok (.aload_n 3, 1) := by decide +kernel
theorem d_L_law_1218 : decode mL_law.2.1 1218 = .ok (.iconst 0, 1) := by decide +kernel
theorem d_L_law_1219 : decode mL_law.2.1 1219 = .ok (.laload, 1) := by decide +kernel
theorem d_L_law_1220 : decode mL_law.2.1 1220 = .ok (.iload 7, 2) := by decide +kernel
theorem d_L_law_1222 : decode mL_law.2.1 1222 = .ok (.i2l, 1) := by decide +kernel
theorem d_L_law_1223 : decode mL_law.2.1 1223 = .ok (.lcmp, 1) := by decide +kernel
theorem d_L_law_1224 : decode mL_law.2.1 1224 = .ok (.ifCond .eq 5, 3) := by decide +kernel
theorem d_L_law_1227 : decode mL_law.2.1 1227 = .ok (.iconst 0, 1) := by decide +kernel
theorem d_L_law_1228 : decode mL_law.2.1 1228 = .ok (.ireturn, 1) := by decide +kernel
theorem d_L_law_1229 : decode mL_law.2.1 1229 = .ok (.goto 1305, 3) := by decide +kernel
theorem d_L_law_1232 : decode mL_law.2.1 1232 = .ok (.aload_n 1, 1) := by decide +kernel
theorem d_L_law_1233 : decode mL_law.2.1 1233 = .ok (.aload_n 0, 1) := by decide +kernel
theorem d_L_law_1234 : decode mL_law.2.1 1234 = .ok (.iload 5, 2) := by decide +kernel
theorem d_L_law_1236 : decode mL_law.2.1 1236 = .ok (.iconst 1, 1) := by decide +kernel
theorem d_L_law_1237 : decode mL_law.2.1 1237 = .ok (.iadd, 1) := by decide +kernel
theorem d_L_law_1238 : decode mL_law.2.1 1238 = .ok (.iaload, 1) := by decide +kernel
theorem d_L_law_1239 : decode mL_law.2.1 1239 = .ok (.aload_n 0, 1) := by decide +kernel
theorem d_L_law_1240 : decode mL_law.2.1 1240 = .ok (.iload 5, 2) := by decide +kernel
theorem d_L_law_1242 : decode mL_law.2.1 1242 = .ok (.iconst 2, 1) := by decide +kernel
theorem d_L_law_1243 : decode mL_law.2.1 1243 = .ok (.iadd, 1) := by decide +kernel
theorem d_L_law_1244 : decode mL_law.2.1 1244 = .ok (.iaload, 1) := by decide +kernel
theorem d_L_law_1245 : decode mL_law.2.1 1245 = .ok (.aload_n 3, 1) := by decide +kernel
theorem d_L_law_1246 : decode mL_law.2.1 1246 = .ok (.invokestatic 186, 3) := by decide +kernel
theorem d_L_law_1249 : decode mL_law.2.1 1249 = .ok (.istore 6, 2) := by decide +kernel
theorem d_L_law_1251 : decode mL_law.2.1 1251 = .ok (.aload_n 2, 1) := by decide +kernel
theorem d_L_law_1252 : decode mL_law.2.1 1252 = .ok (.aload_n 0, 1) := by decide +kernel
theorem d_L_law_1253 : decode mL_law.2.1 1253 = .ok (.iload 5, 2) := by decide +kernel
theorem d_L_law_1255 : decode mL_law.2.1 1255 = .ok (.iconst 1, 1) := by decide +kernel
theorem d_L_law_1256 : decode mL_law.2.1 1256 = .ok (.iadd, 1) := by decide +kernel
theorem d_L_law_1257 : decode mL_law.2.1 1257 = .ok (.iaload, 1) := by decide +kernel
theorem d_L_law_1258 : decode mL_law.2.1 1258 = .ok (.aload_n 0, 1) := by decide +kernel
theorem d_L_law_1259 : decode mL_law.2.1 1259 = .ok (.iload 5, 2) := by decide +kernel
theorem d_L_law_1261 : decode mL_law.2.1 1261 = .ok (.iconst 2, 1) := by decide +kernel
theorem d_L_law_1262 : decode mL_law.2.1 1262 = .ok (.iadd, 1) := by decide +kernel
theorem d_L_law_1263 : decode mL_law.2.1 1263 = .ok (.iaload, 1) := by decide +kernel
theorem d_L_law_1264 : decode mL_law.2.1 1264 = .ok (.invokevirtual 188, 3) := by decide +kernel
theorem d_L_law_1267 : decode mL_law.2.1 1267 = .ok (.istore 7, 2) := by decide +kernel
theorem d_L_law_1269 : decode mL_law.2.1 1269 = .ok (.aload_n 2, 1) := by decide +kernel
theorem d_L_law_1270 : decode mL_law.2.1 1270 = .ok (.invokevirtual 140, 3) := by decide +kernel
theorem d_L_law_1273 : decode mL_law.2.1 1273 = .ok (.iload 6, 2) := by decide +kernel
theorem d_L_law_1275 : decode mL_law.2.1 1275 = .ok (.if_icmp .eq 5, 3) := by decide +kernel
theorem d_L_law_1278 : decode mL_law.2.1 1278 = .ok (.iconst 0, 1) := by decide +kernel
theorem d_L_law_1279 : decode mL_law.2.1 1279 = .ok (.ireturn, 1) := by decide +kernel
theorem d_L_law_1280 : decode mL_law.2.1 1280 = .ok (.iload 6, 2) := by decide +kernel
theorem d_L_law_1282 : decode mL_law.2.1 1282 = .ok (.ifCond .ne 15, 3) := by decide +kernel
theorem d_L_law_1285 : decode mL_law.2.1 1285 = .ok (.aload_n 3, 1) := by decide +kernel
theorem d_L_law_1286 : decode mL_law.2.1 1286 = .ok (.iconst 0, 1) := by decide +kernel
theorem d_L_law_1287 : decode mL_law.2.1 1287 = .ok (.laload, 1) := by decide +kernel
theorem d_L_law_1288 : decode mL_law.2.1 1288 = .ok (.iload 7, 2) := by decide +kernel
theorem d_L_law_1290 : decode mL_law.2.1 1290 = .ok (.i2l, 1) := by decide +kernel
theorem d_L_law_1291 : decode mL_law.2.1 1291 = .ok (.lcmp, 1) := by decide +kernel
theorem d_L_law_1292 : decode mL_law.2.1 1292 = .ok (.ifCond .eq 5, 3) := by decide +kernel
theorem d_L_law_1295 : decode mL_law.2.1 1295 = .ok (.iconst 0, 1) := by decide +kernel
theorem d_L_law_1296 : decode mL_law.2.1 1296 = .ok (.ireturn, 1) := by decide +kernel
theorem d_L_law_1297 : decode mL_law.2.1 1297 = .ok (.goto 1237, 3) := by decide +kernel
theorem d_L_law_1300 : decode mL_law.2.1 1300 = .ok (.aload_n 1, 1) := by decide +kernel
theorem d_L_law_1301 : decode mL_law.2.1 1301 = .ok (.aload_n 0, 1) := by decide +kernel
theorem d_L_law_1302 : decode mL_law.2.1 1302 = .ok (.iload 5, 2) := by decide +kernel
theorem d_L_law_1304 : decode mL_law.2.1 1304 = .ok (.iconst 1, 1) := by decide +kernel
theorem d_L_law_1305 : decode mL_law.2.1 1305 = .ok (.iadd, 1) := by decide +kernel
theorem d_L_law_1306 : decode mL_law.2.1 1306 = .ok (.iaload, 1) := by decide +kernel
theorem d_L_law_1307 : decode mL_law.2.1 1307 = .ok (.aload_n 0, 1) := by decide +kernel
theorem d_L_law_1308 : decode mL_law.2.1 1308 = .ok (.iload 5, 2) := by decide +kernel
theorem d_L_law_1310 : decode mL_law.2.1 1310 = .ok (.iconst 2, 1) := by decide +kernel
theorem d_L_law_1311 : decode mL_law.2.1 1311 = .ok (.iadd, 1) := by decide +kernel
theorem d_L_law_1312 : decode mL_law.2.1 1312 = .ok (.iaload, 1) := by decide +kernel
theorem d_L_law_1313 : decode mL_law.2.1 1313 = .ok (.aload_n 3, 1) := by decide +kernel
theorem d_L_law_1314 : decode mL_law.2.1 1314 = .ok (.invokestatic 189, 3) := by decide +kernel
theorem d_L_law_1317 : decode mL_law.2.1 1317 = .ok (.istore 6, 2) := by decide +kernel
theorem d_L_law_1319 : decode mL_law.2.1 1319 = .ok (.aload_n 2, 1) := by decide +kernel
theorem d_L_law_1320 : decode mL_law.2.1 1320 = .ok (.aload_n 0, 1) := by decide +kernel
theorem d_L_law_1321 : decode mL_law.2.1 1321 = .ok (.iload 5, 2) := by decide +kernel
