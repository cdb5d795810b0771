theorem dL_refuses_831 : decode cL_refuses 831 = .ok (.bipush 60, 2) := by decide +kernel
theorem dL_refuses_833 : decode cL_refuses 833 = .ok (.invokestatic 199, 3) := by decide +kernel
theorem dL_refuses_836 : decode cL_refuses 836 = .ok (.bipush (-4), 2) := by decide +kernel
theorem dL_refuses_838 : decode cL_refuses 838 = .ok (.if_icmp .ne 112, 3) := by decide +kernel
theorem dL_refuses_841 : decode cL_refuses 841 = .ok (.aload_n 0, 1) := by decide +kernel
theorem dL_refuses_842 : decode cL_refuses 842 = .ok (.iload 8, 2) := by decide +kernel
theorem dL_refuses_844 : decode cL_refuses 844 = .ok (.iconst 0, 1) := by decide +kernel
theorem dL_refuses_845 : decode cL_refuses 845 = .ok (.invokestatic 202, 3) := by decide +kernel
theorem dL_refuses_848 : decode cL_refuses 848 = .ok (.bipush (-4), 2) := by decide +kernel
theorem dL_refuses_850 : decode cL_refuses 850 = .ok (.if_icmp .ne 100, 3) := by decide +kernel
theorem dL_refuses_853 : decode cL_refuses 853 = .ok (.aload_n 0, 1) := by decide +kernel
theorem dL_refuses_854 : decode cL_refuses 854 = .ok (.iload 8, 2) := by decide +kernel
theorem dL_refuses_856 : decode cL_refuses 856 = .ok (.iload 9, 2) := by decide +kernel
theorem dL_refuses_858 : decode cL_refuses 858 = .ok (.invokestatic 264, 3) := by decide +kernel
theorem dL_refuses_861 : decode cL_refuses 861 = .ok (.ifCond .ge 19, 3) := by decide +kernel
theorem dL_refuses_864 : decode cL_refuses 864 = .ok (.aload_n 0, 1) := by decide +kernel
theorem dL_refuses_865 : decode cL_refuses 865 = .ok (.iload 8, 2) := by decide +kernel
theorem dL_refuses_867 : decode cL_refuses 867 = .ok (.iload 9, 2) := by decide +kernel
theorem dL_refuses_869 : decode cL_refuses 869 = .ok (.invokestatic 217, 3) := by decide +kernel
theorem dL_refuses_872 : decode cL_refuses 872 = .ok (.bipush (-4), 2) := by decide +kernel
theorem dL_refuses_874 : decode cL_refuses 874 = .ok (.if_icmp .ne 76, 3) := by decide +kernel
theorem dL_refuses_877 : decode cL_refuses 877 = .ok (.goto 45, 3) := by decide +kernel
theorem dL_refuses_880 : decode cL_refuses 880 = .ok (.aload_n 0, 1) := by decide +kernel
theorem dL_refuses_881 : decode cL_refuses 881 = .ok (.iload 8, 2) := by decide +kernel
theorem dL_refuses_883 : decode cL_refuses 883 = .ok (.iload 9, 2) := by decide +kernel
theorem dL_refuses_885 : decode cL_refuses 885 = .ok (.iconst 5, 1) := by decide +kernel
theorem dL_refuses_886 : decode cL_refuses 886 = .ok (.invokestatic 206, 3) := by decide +kernel
theorem dL_refuses_889 : decode cL_refuses 889 = .ok (.sipush (-904), 3) := by decide +kernel
theorem dL_refuses_892 : decode cL_refuses 892 = .ok (.if_icmp .ne 58, 3) := by decide +kernel
theorem dL_refuses_895 : decode cL_refuses 895 = .ok (.aload_n 0, 1) := by decide +kernel
theorem dL_refuses_896 : decode cL_refuses 896 = .ok (.iload 8, 2) := by decide +kernel
theorem dL_refuses_898 : decode cL_refuses 898 = .ok (.iload 9, 2) := by decide +kernel
theorem dL_refuses_900 : decode cL_refuses 900 = .ok (.iconst 1, 1) := by decide +kernel
theorem dL_refuses_901 : decode cL_refuses 901 = .ok (.invokestatic 208, 3) := by decide +kernel
theorem dL_refuses_904 : decode cL_refuses 904 = .ok (.bipush (-4), 2) := by decide +kernel
theorem dL_refuses_906 : decode cL_refuses 906 = .ok (.if_icmp .ne 44, 3) := by decide +kernel
theorem dL_refuses_909 : decode cL_refuses 909 = .ok (.aload_n 0, 1) := by decide +kernel
theorem dL_refuses_910 : decode cL_refuses 910 = .ok (.iload 8, 2) := by decide +kernel
theorem dL_refuses_912 : decode cL_refuses 912 = .ok (.iload 9, 2) := by decide +kernel
theorem dL_refuses_914 : decode cL_refuses 914 = .ok (.invokestatic 210, 3) := by decide +kernel
theorem dL_refuses_917 : decode cL_refuses 917 = .ok (.bipush (-4), 2) := by decide +kernel
theorem dL_refuses_919 : decode cL_refuses 919 = .ok (.if_icmp .ne 31, 3) := by decide +kernel
theorem dL_refuses_922 : decode cL_refuses 922 = .ok (.aload_n 0, 1) := by decide +kernel
theorem dL_refuses_923 : decode cL_refuses 923 = .ok (.iload 8, 2) := by decide +kernel
theorem dL_refuses_925 : decode cL_refuses 925 = .ok (.iload 9, 2) := by decide +kernel
theorem dL_refuses_927 : decode cL_refuses 927 = .ok (.invokestatic 262, 3) := by decide +kernel
theorem dL_refuses_930 : decode cL_refuses 930 = .ok (.ifCond .eq 16, 3) := by decide +kernel
theorem dL_refuses_933 : decode cL_refuses 933 = .ok (.aload_n 0, 1) := by decide +kernel
theorem dL_refuses_934 : decode cL_refuses 934 = .ok (.iload 8, 2) := by decide +kernel
theorem dL_refuses_936 : decode cL_refuses 936 = .ok (.iload 9, 2) := by decide +kernel
theorem dL_refuses_938 : decode cL_refuses 938 = .ok (.invokestatic 240, 3) := by decide +kernel
theorem dL_refuses_941 : decode cL_refuses 941 = .ok (.bipush (-4), 2) := by decide +kernel
theorem dL_refuses_943 : decode cL_refuses 943 = .ok (.if_icmp .ne 7, 3) := by decide +kernel
theorem dL_refuses_946 : decode cL_refuses 946 = .ok (.iconst 1, 1) := by decide +kernel
theorem dL_refuses_947 : decode cL_refuses 947 = .ok (.goto 4, 3) := by decide +kernel
theorem dL_refuses_950 : decode cL_refuses 950 = .ok (.iconst 0, 1) := by decide +kernel
theorem dL_refuses_951 : decode cL_refuses 951 = .ok (.istore 7, 2) := by decide +kernel
theorem dL_refuses_953 : decode cL_refuses 953 = .ok (.iinc 8 1, 3) := by decide +kernel
theorem dL_refuses_956 : decode cL_refuses 956 = .ok (.goto (-308), 3) := by decide +kernel
theorem dL_refuses_959 : decode cL_refuses 959 = .ok (.iload 7, 2) := by decide +kernel
theorem dL_refuses_961 : decode cL_refuses 961 = .ok (.ifCond .eq 85, 3) := by decide +kernel
theorem dL_refuses_964 : decode cL_refuses 964 = .ok (.iload_n 2, 1) := by decide +kernel
theorem dL_refuses_965 : decode cL_refuses 965 = .ok (.bipush 24, 2) := by decide +kernel
theorem dL_refuses_967 : decode cL_refuses 967 = .ok (.if_icmp .lt 16, 3) := by decide +kernel
theorem dL_refuses_970 : decode cL_refuses 970 = .ok (.aload_n 0, 1) := by decide +kernel
theorem dL_refuses_971 : decode cL_refuses 971 = .ok (.iconst 0, 1) := by decide +kernel
theorem dL_refuses_972 : decode cL_refuses 972 = .ok (.iconst 0, 1) := by decide +kernel
theorem dL_refuses_973 : decode cL_refuses 973 = .ok (.bipush 9, 2) := by decide +kernel
theorem dL_refuses_975 : decode cL_refuses 975 = .ok (.invokestatic 194, 3) := by decide +kernel
theorem dL_refuses_978 : decode cL_refuses 978 = .ok (.bipush (-4), 2) := by decide +kernel
theorem dL_refuses_980 : decode cL_refuses 980 = .ok (.if_icmp .ne 66, 3) := by decide +kernel
theorem dL_refuses_983 : decode cL_refuses 983 = .ok (.aload_n 0, 1) := by decide +kernel
theorem dL_refuses_984 : decode cL_refuses 984 = .ok (.iload_n 1, 1) := by decide +kernel
theorem dL_refuses_985 : decode cL_refuses 985 = .ok (.iconst 4, 1) := by decide +kernel
theorem dL_refuses_986 : decode cL_refuses 986 = .ok (.irem, 1) := by decide +kernel
theorem dL_refuses_987 : decode cL_refuses 987 = .ok (.iconst 0, 1) := by decide +kernel
theorem dL_refuses_988 : decode cL_refuses 988 = .ok (.invokestatic 288, 3) := by decide +kernel
theorem dL_refuses_991 : decode cL_refuses 991 = .ok (.bipush 10, 2) := by decide +kernel
theorem dL_refuses_993 : decode cL_refuses 993 = .ok (.irem, 1) := by decide +kernel
theorem dL_refuses_994 : decode cL_refuses 994 = .ok (.iconst 1, 1) := by decide +kernel
theorem dL_refuses_995 : decode cL_refuses 995 = .ok (.if_icmp .eq 16, 3) := by decide +kernel
theorem dL_refuses_998 : decode cL_refuses 998 = .ok (.aload_n 0, 1) := by decide +kernel
theorem dL_refuses_999 : decode cL_refuses 999 = .ok (.iload_n 1, 1) := by decide +kernel
theorem dL_refuses_1000 : decode cL_refuses 1000 = .ok (.iconst 4, 1) := by decide +kernel
theorem dL_refuses_1001 : decode cL_refuses 1001 = .ok (.irem, 1) := by decide +kernel
theorem dL_refuses_1002 : decode cL_refuses 1002 = .ok (.iconst 0, 1) := by decide +kernel
theorem dL_refuses_1003 : decode cL_refuses 1003 = .ok (.invokestatic 219, 3) := by decide +kernel
theorem dL_refuses_1006 : decode cL_refuses 1006 = .ok (.bipush (-4), 2) := by decide +kernel
theorem dL_refuses_1008 : decode cL_refuses 1008 = .ok (.if_icmp .ne 38, 3) := by decide +kernel
theorem dL_refuses_1011 : decode cL_refuses 1011 = .ok (.aload_n 0, 1) := by decide +kernel
theorem dL_refuses_1012 : decode cL_refuses 1012 = .ok (.iload_n 1, 1) := by decide +kernel
theorem dL_refuses_1013 : decode cL_refuses 1013 = .ok (.iconst 4, 1) := by decide +kernel
theorem dL_refuses_1014 : decode cL_refuses 1014 = .ok (.irem, 1) := by decide +kernel
theorem dL_refuses_1015 : decode cL_refuses 1015 = .ok (.iconst 1, 1) := by decide +kernel
theorem dL_refuses_1016 : decode cL_refuses 1016 = .ok (.invokestatic 288, 3) := by decide +kernel
theorem dL_refuses_1019 : decode cL_refuses 1019 = .ok (.bipush 10, 2) := by decide +kernel
theorem dL_refuses_1021 : decode cL_refuses 1021 = .ok (.irem, 1) := by decide +kernel
theorem dL_refuses_1022 : decode cL_refuses 1022 = .ok (.iconst 3, 1) := by decide +kernel
theorem dL_refuses_1023 : decode cL_refuses 1023 = .ok (.if_icmp .eq 19, 3) := by decide +kernel
theorem dL_refuses_1026 : decode cL_refuses 1026 = .ok (.aload_n 0, 1) := by decide +kernel
theorem dL_refuses_1027 : decode cL_refuses 1027 = .ok (.iload_n 1, 1) := by decide +kernel
theorem dL_refuses_1028 : decode cL_refuses 1028 = .ok (.iconst 5, 1) := by decide +kernel
theorem dL_refuses_1029 : decode cL_refuses 1029 = .ok (.irem, 1) := by decide +kernel
theorem dL_refuses_1030 : decode cL_refuses 1030 = .ok (.iload_n 1, 1) := by decide +kernel
theorem dL_refuses_1031 : decode cL_refuses 1031 = .ok (.iconst 4, 1) := by decide +kernel
theorem dL_refuses_1032 : decode cL_refuses 1032 = .ok (.irem, 1) := by decide +kernel
theorem dL_refuses_1033 : decode cL_refuses 1033 = .ok (.iconst 1, 1) := by decide +kernel
theorem dL_refuses_1034 : decode cL_refuses 1034 = .ok (.invokestatic 221, 3) := by decide +kernel
theorem dL_refuses_1037 : decode cL_refuses 1037 = .ok (.bipush (-4), 2) := by decide +kernel
theorem dL_refuses_1039 : decode cL_refuses 1039 = .ok (.if_icmp .ne 7, 3) := by decide +kernel
theorem dL_refuses_1042 : decode cL_refuses 1042 = .ok (.iconst 1, 1) := by decide +kernel
theorem dL_refuses_1043 : decode cL_refuses 1043 = .ok (.goto 4, 3) := by decide +kernel
theorem dL_refuses_1046 : decode cL_refuses 1046 = .ok (.iconst 0, 1) := by decide +kernel
theorem dL_refuses_1047 : decode cL_refuses 1047 = .ok (.ireturn, 1) := by decide +kernel
