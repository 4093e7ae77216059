theorem d_L_law_900 : decode c_L_law 900 = .ok (.i2l, 1) := by decide +kernel
theorem d_L_law_901 : decode c_L_law 901 = .ok (.bipush 32, 2) := by decide +kernel
theorem d_L_law_903 : decode c_L_law 903 = .ok (.lshl, 1) := by decide +kernel
theorem d_L_law_904 : decode c_L_law 904 = .ok (.aload_n 0, 1) := by decide +kernel
theorem d_L_law_905 : decode c_L_law 905 = .ok (.iload 4, 2) := by decide +kernel
theorem d_L_law_907 : decode c_L_law 907 = .ok (.iconst 5, 1) := by decide +kernel
theorem d_L_law_908 : decode c_L_law 908 = .ok (.iadd, 1) := by decide +kernel
theorem d_L_law_909 : decode c_L_law 909 = .ok (.iaload, 1) := by decide +kernel
theorem d_L_law_910 : decode c_L_law 910 = .ok (.i2l, 1) := by decide +kernel
theorem d_L_law_911 : decode c_L_law 911 = .ok (.ldc2_w 107, 3) := by decide +kernel
theorem d_L_law_914 : decode c_L_law 914 = .ok (.land, 1) := by decide +kernel
theorem d_L_law_915 : decode c_L_law 915 = .ok (.lor, 1) := by decide +kernel
theorem d_L_law_916 : decode c_L_law 916 = .ok (.aload_n 3, 1) := by decide +kernel
theorem d_L_law_917 : decode c_L_law 917 = .ok (.invokestatic 119, 3) := by decide +kernel
theorem d_L_law_920 : decode c_L_law 920 = .ok (.istore 5, 2) := by decide +kernel
theorem d_L_law_922 : decode c_L_law 922 = .ok (.aload_n 2, 1) := by decide +kernel
theorem d_L_law_923 : decode c_L_law 923 = .ok (.aload_n 0, 1) := by decide +kernel
theorem d_L_law_924 : decode c_L_law 924 = .ok (.iload 4, 2) := by decide +kernel
theorem d_L_law_926 : decode c_L_law 926 = .ok (.iconst 1, 1) := by decide +kernel
theorem d_L_law_927 : decode c_L_law 927 = .ok (.iadd, 1) := by decide +kernel
theorem d_L_law_928 : decode c_L_law 928 = .ok (.iaload, 1) := by decide +kernel
theorem d_L_law_929 : decode c_L_law 929 = .ok (.aload_n 0, 1) := by decide +kernel
theorem d_L_law_930 : decode c_L_law 930 = .ok (.iload 4, 2) := by decide +kernel
theorem d_L_law_932 : decode c_L_law 932 = .ok (.iconst 2, 1) := by decide +kernel
theorem d_L_law_933 : decode c_L_law 933 = .ok (.iadd, 1) := by decide +kernel
theorem d_L_law_934 : decode c_L_law 934 = .ok (.iaload, 1) := by decide +kernel
theorem d_L_law_935 : decode c_L_law 935 = .ok (.i2l, 1) := by decide +kernel
theorem d_L_law_936 : decode c_L_law 936 = .ok (.bipush 32, 2) := by decide +kernel
theorem d_L_law_938 : decode c_L_law 938 = .ok (.lshl, 1) := by decide +kernel
theorem d_L_law_939 : decode c_L_law 939 = .ok (.aload_n 0, 1) := by decide +kernel
theorem d_L_law_940 : decode c_L_law 940 = .ok (.iload 4, 2) := by decide +kernel
theorem d_L_law_942 : decode c_L_law 942 = .ok (.iconst 3, 1) := by decide +kernel
theorem d_L_law_943 : decode c_L_law 943 = .ok (.iadd, 1) := by decide +kernel
theorem d_L_law_944 : decode c_L_law 944 = .ok (.iaload, 1) := by decide +kernel
theorem d_L_law_945 : decode c_L_law 945 = .ok (.i2l, 1) := by decide +kernel
theorem d_L_law_946 : decode c_L_law 946 = .ok (.ldc2_w 107, 3) := by decide +kernel
theorem d_L_law_949 : decode c_L_law 949 = .ok (.land, 1) := by decide +kernel
theorem d_L_law_950 : decode c_L_law 950 = .ok (.lor, 1) := by decide +kernel
theorem d_L_law_951 : decode c_L_law 951 = .ok (.aload_n 0, 1) := by decide +kernel
theorem d_L_law_952 : decode c_L_law 952 = .ok (.iload 4, 2) := by decide +kernel
theorem d_L_law_954 : decode c_L_law 954 = .ok (.iconst 4, 1) := by decide +kernel
theorem d_L_law_955 : decode c_L_law 955 = .ok (.iadd, 1) := by decide +kernel
theorem d_L_law_956 : decode c_L_law 956 = .ok (.iaload, 1) := by decide +kernel
theorem d_L_law_957 : decode c_L_law 957 = .ok (.i2l, 1) := by decide +kernel
theorem d_L_law_958 : decode c_L_law 958 = .ok (.bipush 32, 2) := by decide +kernel
theorem d_L_law_960 : decode c_L_law 960 = .ok (.lshl, 1) := by decide +kernel
theorem d_L_law_961 : decode c_L_law 961 = .ok (.aload_n 0, 1) := by decide +kernel
theorem d_L_law_962 : decode c_L_law 962 = .ok (.iload 4, 2) := by decide +kernel
theorem d_L_law_964 : decode c_L_law 964 = .ok (.iconst 5, 1) := by decide +kernel
theorem d_L_law_965 : decode c_L_law 965 = .ok (.iadd, 1) := by decide +kernel
theorem d_L_law_966 : decode c_L_law 966 = .ok (.iaload, 1) := by decide +kernel
theorem d_L_law_967 : decode c_L_law 967 = .ok (.i2l, 1) := by decide +kernel
theorem d_L_law_968 : decode c_L_law 968 = .ok (.ldc2_w 107, 3) := by decide +kernel
theorem d_L_law_971 : decode c_L_law 971 = .ok (.land, 1) := by decide +kernel
theorem d_L_law_972 : decode c_L_law 972 = .ok (.lor, 1) := by decide +kernel
theorem d_L_law_973 : decode c_L_law 973 = .ok (.invokevirtual 121, 3) := by decide +kernel
theorem d_L_law_976 : decode c_L_law 976 = .ok (.istore 6, 2) := by decide +kernel
theorem d_L_law_978 : decode c_L_law 978 = .ok (.aload_n 2, 1) := by decide +kernel
theorem d_L_law_979 : decode c_L_law 979 = .ok (.invokevirtual 74, 3) := by decide +kernel
theorem d_L_law_982 : decode c_L_law 982 = .ok (.iload 5, 2) := by decide +kernel
theorem d_L_law_984 : decode c_L_law 984 = .ok (.if_icmp .eq 5, 3) := by decide +kernel
theorem d_L_law_987 : decode c_L_law 987 = .ok (.iconst 0, 1) := by decide +kernel
theorem d_L_law_988 : decode c_L_law 988 = .ok (.ireturn, 1) := by decide +kernel
theorem d_L_law_989 : decode c_L_law 989 = .ok (.iload 5, 2) := by decide +kernel
theorem d_L_law_991 : decode c_L_law 991 = .ok (.ifCond .ne 22, 3) := by decide +kernel
theorem d_L_law_994 : decode c_L_law 994 = .ok (.aload_n 3, 1) := by decide +kernel
theorem d_L_law_995 : decode c_L_law 995 = .ok (.iconst 0, 1) := by decide +kernel
theorem d_L_law_996 : decode c_L_law 996 = .ok (.laload, 1) := by decide +kernel
theorem d_L_law_997 : decode c_L_law 997 = .ok (.iload 6, 2) := by decide +kernel
theorem d_L_law_999 : decode c_L_law 999 = .ok (.ifCond .eq 7, 3) := by decide +kernel
theorem d_L_law_1002 : decode c_L_law 1002 = .ok (.lconst 1, 1) := by decide +kernel
theorem d_L_law_1003 : decode c_L_law 1003 = .ok (.goto 4, 3) := by decide +kernel
theorem d_L_law_1006 : decode c_L_law 1006 = .ok (.lconst 0, 1) := by decide +kernel
theorem d_L_law_1007 : decode c_L_law 1007 = .ok (.lcmp, 1) := by decide +kernel
theorem d_L_law_1008 : decode c_L_law 1008 = .ok (.ifCond .eq 5, 3) := by decide +kernel
theorem d_L_law_1011 : decode c_L_law 1011 = .ok (.iconst 0, 1) := by decide +kernel
theorem d_L_law_1012 : decode c_L_law 1012 = .ok (.ireturn, 1) := by decide +kernel
theorem d_L_law_1013 : decode c_L_law 1013 = .ok (.goto 28, 3) := by decide +kernel
theorem d_L_law_1016 : decode c_L_law 1016 = .ok (.aload_n 1, 1) := by decide +kernel
theorem d_L_law_1017 : decode c_L_law 1017 = .ok (.aload_n 0, 1) := by decide +kernel
theorem d_L_law_1018 : decode c_L_law 1018 = .ok (.iload 4, 2) := by decide +kernel
theorem d_L_law_1020 : decode c_L_law 1020 = .ok (.iconst 1, 1) := by decide +kernel
theorem d_L_law_1021 : decode c_L_law 1021 = .ok (.iadd, 1) := by decide +kernel
theorem d_L_law_1022 : decode c_L_law 1022 = .ok (.iaload, 1) := by decide +kernel
theorem d_L_law_1023 : decode c_L_law 1023 = .ok (.invokevirtual 122, 3) := by decide +kernel
theorem d_L_law_1026 : decode c_L_law 1026 = .ok (.aload_n 2, 1) := by decide +kernel
theorem d_L_law_1027 : decode c_L_law 1027 = .ok (.aload_n 0, 1) := by decide +kernel
theorem d_L_law_1028 : decode c_L_law 1028 = .ok (.iload 4, 2) := by decide +kernel
theorem d_L_law_1030 : decode c_L_law 1030 = .ok (.iconst 1, 1) := by decide +kernel
theorem d_L_law_1031 : decode c_L_law 1031 = .ok (.iadd, 1) := by decide +kernel
theorem d_L_law_1032 : decode c_L_law 1032 = .ok (.iaload, 1) := by decide +kernel
theorem d_L_law_1033 : decode c_L_law 1033 = .ok (.invokevirtual 125, 3) := by decide +kernel
theorem d_L_law_1036 : decode c_L_law 1036 = .ok (.if_icmp .eq 5, 3) := by decide +kernel
theorem d_L_law_1039 : decode c_L_law 1039 = .ok (.iconst 0, 1) := by decide +kernel
theorem d_L_law_1040 : decode c_L_law 1040 = .ok (.ireturn, 1) := by decide +kernel
theorem d_L_law_1041 : decode c_L_law 1041 = .ok (.iinc 4 6, 3) := by decide +kernel
theorem d_L_law_1044 : decode c_L_law 1044 = .ok (.goto (-1011), 3) := by decide +kernel
theorem d_L_law_1047 : decode c_L_law 1047 = .ok (.iconst 1, 1) := by decide +kernel
theorem d_L_law_1048 : decode c_L_law 1048 = .ok (.ireturn, 1) := by decide +kernel
