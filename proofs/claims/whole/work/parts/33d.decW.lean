theorem dW_788 : decode code 788 = .ok (.iload 4, 2) := by decide +kernel
theorem dW_790 : decode code 790 = .ok (.iconst 1, 1) := by decide +kernel
theorem dW_791 : decode code 791 = .ok (.iadd, 1) := by decide +kernel
theorem dW_792 : decode code 792 = .ok (.iaload, 1) := by decide +kernel
theorem dW_793 : decode code 793 = .ok (.aload_n 0, 1) := by decide +kernel
theorem dW_794 : decode code 794 = .ok (.iload 4, 2) := by decide +kernel
theorem dW_796 : decode code 796 = .ok (.iconst 2, 1) := by decide +kernel
theorem dW_797 : decode code 797 = .ok (.iadd, 1) := by decide +kernel
theorem dW_798 : decode code 798 = .ok (.iaload, 1) := by decide +kernel
theorem dW_799 : decode code 799 = .ok (.invokevirtual 105, 3) := by decide +kernel
theorem dW_802 : decode code 802 = .ok (.istore 6, 2) := by decide +kernel
theorem dW_804 : decode code 804 = .ok (.aload_n 2, 1) := by decide +kernel
theorem dW_805 : decode code 805 = .ok (.invokevirtual 77, 3) := by decide +kernel
theorem dW_808 : decode code 808 = .ok (.iload 5, 2) := by decide +kernel
theorem dW_810 : decode code 810 = .ok (.if_icmp .eq 5, 3) := by decide +kernel
theorem dW_813 : decode code 813 = .ok (.iconst 0, 1) := by decide +kernel
theorem dW_814 : decode code 814 = .ok (.ireturn, 1) := by decide +kernel
theorem dW_815 : decode code 815 = .ok (.iload 5, 2) := by decide +kernel
theorem dW_817 : decode code 817 = .ok (.ifCond .ne 22, 3) := by decide +kernel
theorem dW_820 : decode code 820 = .ok (.aload_n 3, 1) := by decide +kernel
theorem dW_821 : decode code 821 = .ok (.iconst 0, 1) := by decide +kernel
theorem dW_822 : decode code 822 = .ok (.laload, 1) := by decide +kernel
theorem dW_823 : decode code 823 = .ok (.iload 6, 2) := by decide +kernel
theorem dW_825 : decode code 825 = .ok (.ifCond .eq 7, 3) := by decide +kernel
theorem dW_828 : decode code 828 = .ok (.lconst 1, 1) := by decide +kernel
theorem dW_829 : decode code 829 = .ok (.goto 4, 3) := by decide +kernel
theorem dW_832 : decode code 832 = .ok (.lconst 0, 1) := by decide +kernel
theorem dW_833 : decode code 833 = .ok (.lcmp, 1) := by decide +kernel
theorem dW_834 : decode code 834 = .ok (.ifCond .eq 5, 3) := by decide +kernel
theorem dW_837 : decode code 837 = .ok (.iconst 0, 1) := by decide +kernel
theorem dW_838 : decode code 838 = .ok (.ireturn, 1) := by decide +kernel
theorem dW_839 : decode code 839 = .ok (.goto 613, 3) := by decide +kernel
theorem dW_842 : decode code 842 = .ok (.aload_n 1, 1) := by decide +kernel
theorem dW_843 : decode code 843 = .ok (.aload_n 0, 1) := by decide +kernel
theorem dW_844 : decode code 844 = .ok (.iload 4, 2) := by decide +kernel
theorem dW_846 : decode code 846 = .ok (.iconst 1, 1) := by decide +kernel
theorem dW_847 : decode code 847 = .ok (.iadd, 1) := by decide +kernel
theorem dW_848 : decode code 848 = .ok (.iaload, 1) := by decide +kernel
theorem dW_849 : decode code 849 = .ok (.aload_n 0, 1) := by decide +kernel
theorem dW_850 : decode code 850 = .ok (.iload 4, 2) := by decide +kernel
theorem dW_852 : decode code 852 = .ok (.iconst 2, 1) := by decide +kernel
theorem dW_853 : decode code 853 = .ok (.iadd, 1) := by decide +kernel
theorem dW_854 : decode code 854 = .ok (.iaload, 1) := by decide +kernel
theorem dW_855 : decode code 855 = .ok (.aload_n 0, 1) := by decide +kernel
theorem dW_856 : decode code 856 = .ok (.iload 4, 2) := by decide +kernel
theorem dW_858 : decode code 858 = .ok (.iconst 3, 1) := by decide +kernel
theorem dW_859 : decode code 859 = .ok (.iadd, 1) := by decide +kernel
theorem dW_860 : decode code 860 = .ok (.iaload, 1) := by decide +kernel
theorem dW_861 : decode code 861 = .ok (.aload_n 3, 1) := by decide +kernel
theorem dW_862 : decode code 862 = .ok (.invokestatic 106, 3) := by decide +kernel
theorem dW_865 : decode code 865 = .ok (.istore 5, 2) := by decide +kernel
theorem dW_867 : decode code 867 = .ok (.aload_n 2, 1) := by decide +kernel
theorem dW_868 : decode code 868 = .ok (.aload_n 0, 1) := by decide +kernel
theorem dW_869 : decode code 869 = .ok (.iload 4, 2) := by decide +kernel
theorem dW_871 : decode code 871 = .ok (.iconst 1, 1) := by decide +kernel
theorem dW_872 : decode code 872 = .ok (.iadd, 1) := by decide +kernel
theorem dW_873 : decode code 873 = .ok (.iaload, 1) := by decide +kernel
theorem dW_874 : decode code 874 = .ok (.aload_n 0, 1) := by decide +kernel
theorem dW_875 : decode code 875 = .ok (.iload 4, 2) := by decide +kernel
theorem dW_877 : decode code 877 = .ok (.iconst 2, 1) := by decide +kernel
theorem dW_878 : decode code 878 = .ok (.iadd, 1) := by decide +kernel
theorem dW_879 : decode code 879 = .ok (.iaload, 1) := by decide +kernel
theorem dW_880 : decode code 880 = .ok (.aload_n 0, 1) := by decide +kernel
theorem dW_881 : decode code 881 = .ok (.iload 4, 2) := by decide +kernel
theorem dW_883 : decode code 883 = .ok (.iconst 3, 1) := by decide +kernel
theorem dW_884 : decode code 884 = .ok (.iadd, 1) := by decide +kernel
theorem dW_885 : decode code 885 = .ok (.iaload, 1) := by decide +kernel
theorem dW_886 : decode code 886 = .ok (.invokevirtual 108, 3) := by decide +kernel
theorem dW_889 : decode code 889 = .ok (.istore 6, 2) := by decide +kernel
theorem dW_891 : decode code 891 = .ok (.aload_n 2, 1) := by decide +kernel
theorem dW_892 : decode code 892 = .ok (.invokevirtual 77, 3) := by decide +kernel
theorem dW_895 : decode code 895 = .ok (.iload 5, 2) := by decide +kernel
theorem dW_897 : decode code 897 = .ok (.if_icmp .eq 5, 3) := by decide +kernel
theorem dW_900 : decode code 900 = .ok (.iconst 0, 1) := by decide +kernel
theorem dW_901 : decode code 901 = .ok (.ireturn, 1) := by decide +kernel
theorem dW_902 : decode code 902 = .ok (.iload 5, 2) := by decide +kernel
theorem dW_904 : decode code 904 = .ok (.ifCond .ne 22, 3) := by decide +kernel
theorem dW_907 : decode code 907 = .ok (.aload_n 3, 1) := by decide +kernel
theorem dW_908 : decode code 908 = .ok (.iconst 0, 1) := by decide +kernel
theorem dW_909 : decode code 909 = .ok (.laload, 1) := by decide +kernel
theorem dW_910 : decode code 910 = .ok (.iload 6, 2) := by decide +kernel
theorem dW_912 : decode code 912 = .ok (.ifCond .eq 7, 3) := by decide +kernel
theorem dW_915 : decode code 915 = .ok (.lconst 1, 1) := by decide +kernel
theorem dW_916 : decode code 916 = .ok (.goto 4, 3) := by decide +kernel
theorem dW_919 : decode code 919 = .ok (.lconst 0, 1) := by decide +kernel
theorem dW_920 : decode code 920 = .ok (.lcmp, 1) := by decide +kernel
theorem dW_921 : decode code 921 = .ok (.ifCond .eq 5, 3) := by decide +kernel
theorem dW_924 : decode code 924 = .ok (.iconst 0, 1) := by decide +kernel
theorem dW_925 : decode code 925 = .ok (.ireturn, 1) := by decide +kernel
theorem dW_926 : decode code 926 = .ok (.goto 526, 3) := by decide +kernel
theorem dW_929 : decode code 929 = .ok (.aload_n 1, 1) := by decide +kernel
theorem dW_930 : decode code 930 = .ok (.aload_n 0, 1) := by decide +kernel
theorem dW_931 : decode code 931 = .ok (.iload 4, 2) := by decide +kernel
theorem dW_933 : decode code 933 = .ok (.iconst 1, 1) := by decide +kernel
theorem dW_934 : decode code 934 = .ok (.iadd, 1) := by decide +kernel
theorem dW_935 : decode code 935 = .ok (.iaload, 1) := by decide +kernel
theorem dW_936 : decode code 936 = .ok (.aload_n 0, 1) := by decide +kernel
theorem dW_937 : decode code 937 = .ok (.iload 4, 2) := by decide +kernel
theorem dW_939 : decode code 939 = .ok (.iconst 2, 1) := by decide +kernel
theorem dW_940 : decode code 940 = .ok (.iadd, 1) := by decide +kernel
theorem dW_941 : decode code 941 = .ok (.iaload, 1) := by decide +kernel
theorem dW_942 : decode code 942 = .ok (.aload_n 3, 1) := by decide +kernel
theorem dW_943 : decode code 943 = .ok (.invokestatic 109, 3) := by decide +kernel
theorem dW_946 : decode code 946 = .ok (.istore 5, 2) := by decide +kernel
theorem dW_948 : decode code 948 = .ok (.aload_n 2, 1) := by decide +kernel
theorem dW_949 : decode code 949 = .ok (.aload_n 0, 1) := by decide +kernel
theorem dW_950 : decode code 950 = .ok (.iload 4, 2) := by decide +kernel
theorem dW_952 : decode code 952 = .ok (.iconst 1, 1) := by decide +kernel
theorem dW_953 : decode code 953 = .ok (.iadd, 1) := by decide +kernel
theorem dW_954 : decode code 954 = .ok (.iaload, 1) := by decide +kernel
theorem dW_955 : decode code 955 = .ok (.aload_n 0, 1) := by decide +kernel
theorem dW_956 : decode code 956 = .ok (.iload 4, 2) := by decide +kernel
theorem dW_958 : decode code 958 = .ok (.iconst 2, 1) := by decide +kernel
theorem dW_959 : decode code 959 = .ok (.iadd, 1) := by decide +kernel
theorem dW_960 : decode code 960 = .ok (.iaload, 1) := by decide +kernel
theorem dW_961 : decode code 961 = .ok (.invokevirtual 111, 3) := by decide +kernel
theorem dW_964 : decode code 964 = .ok (.istore 6, 2) := by decide +kernel
theorem dW_966 : decode code 966 = .ok (.aload_n 2, 1) := by decide +kernel
theorem dW_967 : decode code 967 = .ok (.invokevirtual 77, 3) := by decide +kernel
theorem dW_970 : decode code 970 = .ok (.iload 5, 2) := by decide +kernel
theorem dW_972 : decode code 972 = .ok (.if_icmp .eq 5, 3) := by decide +kernel
theorem dW_975 : decode code 975 = .ok (.iconst 0, 1) := by decide +kernel
theorem dW_976 : decode code 976 = .ok (.ireturn, 1) := by decide +kernel
theorem dW_977 : decode code 977 = .ok (.iload 5, 2) := by decide +kernel
theorem dW_979 : decode code 979 = .ok (.ifCond .ne 22, 3) := by decide +kernel
theorem dW_982 : decode code 982 = .ok (.aload_n 3, 1) := by decide +kernel
theorem dW_983 : decode code 983 = .ok (.iconst 0, 1) := by decide +kernel
theorem dW_984 : decode code 984 = .ok (.laload, 1) := by decide +kernel
theorem dW_985 : decode code 985 = .ok (.iload 6, 2) := by decide +kernel
theorem dW_987 : decode code 987 = .ok (.ifCond .eq 7, 3) := by decide +kernel
theorem dW_990 : decode code 990 = .ok (.lconst 1, 1) := by decide +kernel
theorem dW_991 : decode code 991 = .ok (.goto 4, 3) := by decide +kernel
theorem dW_994 : decode code 994 = .ok (.lconst 0, 1) := by decide +kernel
theorem dW_995 : decode code 995 = .ok (.lcmp, 1) := by decide +kernel
theorem dW_996 : decode code 996 = .ok (.ifCond .eq 5, 3) := by decide +kernel
theorem dW_999 : decode code 999 = .ok (.iconst 0, 1) := by decide +kernel
theorem dW_1000 : decode code 1000 = .ok (.ireturn, 1) := by decide +kernel
theorem dW_1001 : decode code 1001 = .ok (.goto 451, 3) := by decide +kernel
theorem dW_1004 : decode code 1004 = .ok (.aload_n 1, 1) := by decide +kernel
theorem dW_1005 : decode code 1005 = .ok (.aload_n 0, 1) := by decide +kernel
theorem dW_1006 : decode code 1006 = .ok (.iload 4, 2) := by decide +kernel
theorem dW_1008 : decode code 1008 = .ok (.iconst 1, 1) := by decide +kernel
theorem dW_1009 : decode code 1009 = .ok (.iadd, 1) := by decide +kernel
theorem dW_1010 : decode code 1010 = .ok (.iaload, 1) := by decide +kernel
theorem dW_1011 : decode code 1011 = .ok (.aload_n 0, 1) := by decide +kernel
theorem dW_1012 : decode code 1012 = .ok (.iload 4, 2) := by decide +kernel
theorem dW_1014 : decode code 1014 = .ok (.iconst 2, 1) := by decide +kernel
theorem dW_1015 : decode code 1015 = .ok (.iadd, 1) := by decide +kernel
theorem dW_1016 : decode code 1016 = .ok (.iaload, 1) := by decide +kernel
theorem dW_1017 : decode code 1017 = .ok (.aload_n 3, 1) := by decide +kernel
theorem dW_1018 : decode code 1018 = .ok (.invokestatic 112, 3) := by decide +kernel
theorem dW_1021 : decode code 1021 = .ok (.istore 5, 2) := by decide +kernel
theorem dW_1023 : decode code 1023 = .ok (.aload_n 2, 1) := by decide +kernel
theorem dW_1024 : decode code 1024 = .ok (.aload_n 0, 1) := by decide +kernel
theorem dW_1025 : decode code 1025 = .ok (.iload 4, 2) := by decide +kernel
theorem dW_1027 : decode code 1027 = .ok (.iconst 1, 1) := by decide +kernel
theorem dW_1028 : decode code 1028 = .ok (.iadd, 1) := by decide +kernel
theorem dW_1029 : decode code 1029 = .ok (.iaload, 1) := by decide +kernel
theorem dW_1030 : decode code 1030 = .ok (.aload_n 0, 1) := by decide +kernel
theorem dW_1031 : decode code 1031 = .ok (.iload 4, 2) := by decide +kernel
