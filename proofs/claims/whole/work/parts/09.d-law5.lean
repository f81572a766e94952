theorem d_L_law_912 : decode c_L_law 912 = .ok (.iaload, 1) := by decide +kernel
theorem d_L_law_913 : decode c_L_law 913 = .ok (.aload_n 3, 1) := by decide +kernel
theorem d_L_law_914 : decode c_L_law 914 = .ok (.invokestatic 125, 3) := by decide +kernel
theorem d_L_law_917 : decode c_L_law 917 = .ok (.istore 5, 2) := by decide +kernel
theorem d_L_law_919 : decode c_L_law 919 = .ok (.aload_n 2, 1) := by decide +kernel
theorem d_L_law_920 : decode c_L_law 920 = .ok (.aload_n 0, 1) := by decide +kernel
theorem d_L_law_921 : decode c_L_law 921 = .ok (.iload 4, 2) := by decide +kernel
theorem d_L_law_923 : decode c_L_law 923 = .ok (.iconst 1, 1) := by decide +kernel
theorem d_L_law_924 : decode c_L_law 924 = .ok (.iadd, 1) := by decide +kernel
theorem d_L_law_925 : decode c_L_law 925 = .ok (.iaload, 1) := by decide +kernel
theorem d_L_law_926 : decode c_L_law 926 = .ok (.aload_n 0, 1) := by decide +kernel
theorem d_L_law_927 : decode c_L_law 927 = .ok (.iload 4, 2) := by decide +kernel
theorem d_L_law_929 : decode c_L_law 929 = .ok (.iconst 2, 1) := by decide +kernel
theorem d_L_law_930 : decode c_L_law 930 = .ok (.iadd, 1) := by decide +kernel
theorem d_L_law_931 : decode c_L_law 931 = .ok (.iaload, 1) := by decide +kernel
theorem d_L_law_932 : decode c_L_law 932 = .ok (.aload_n 0, 1) := by decide +kernel
theorem d_L_law_933 : decode c_L_law 933 = .ok (.iload 4, 2) := by decide +kernel
theorem d_L_law_935 : decode c_L_law 935 = .ok (.iconst 3, 1) := by decide +kernel
theorem d_L_law_936 : decode c_L_law 936 = .ok (.iadd, 1) := by decide +kernel
theorem d_L_law_937 : decode c_L_law 937 = .ok (.iaload, 1) := by decide +kernel
theorem d_L_law_938 : decode c_L_law 938 = .ok (.aload_n 0, 1) := by decide +kernel
theorem d_L_law_939 : decode c_L_law 939 = .ok (.iload 4, 2) := by decide +kernel
theorem d_L_law_941 : decode c_L_law 941 = .ok (.iconst 4, 1) := by decide +kernel
theorem d_L_law_942 : decode c_L_law 942 = .ok (.iadd, 1) := by decide +kernel
theorem d_L_law_943 : decode c_L_law 943 = .ok (.iaload, 1) := by decide +kernel
theorem d_L_law_944 : decode c_L_law 944 = .ok (.aload_n 0, 1) := by decide +kernel
theorem d_L_law_945 : decode c_L_law 945 = .ok (.iload 4, 2) := by decide +kernel
theorem d_L_law_947 : decode c_L_law 947 = .ok (.iconst 5, 1) := by decide +kernel
theorem d_L_law_948 : decode c_L_law 948 = .ok (.iadd, 1) := by decide +kernel
theorem d_L_law_949 : decode c_L_law 949 = .ok (.iaload, 1) := by decide +kernel
theorem d_L_law_950 : decode c_L_law 950 = .ok (.aload_n 0, 1) := by decide +kernel
theorem d_L_law_951 : decode c_L_law 951 = .ok (.iload 4, 2) := by decide +kernel
theorem d_L_law_953 : decode c_L_law 953 = .ok (.bipush 6, 2) := by decide +kernel
theorem d_L_law_955 : decode c_L_law 955 = .ok (.iadd, 1) := by decide +kernel
theorem d_L_law_956 : decode c_L_law 956 = .ok (.iaload, 1) := by decide +kernel
theorem d_L_law_957 : decode c_L_law 957 = .ok (.invokevirtual 128, 3) := by decide +kernel
theorem d_L_law_960 : decode c_L_law 960 = .ok (.istore 6, 2) := by decide +kernel
theorem d_L_law_962 : decode c_L_law 962 = .ok (.aload_n 2, 1) := by decide +kernel
theorem d_L_law_963 : decode c_L_law 963 = .ok (.invokevirtual 80, 3) := by decide +kernel
theorem d_L_law_966 : decode c_L_law 966 = .ok (.iload 5, 2) := by decide +kernel
theorem d_L_law_968 : decode c_L_law 968 = .ok (.if_icmp .eq 5, 3) := by decide +kernel
theorem d_L_law_971 : decode c_L_law 971 = .ok (.iconst 0, 1) := by decide +kernel
theorem d_L_law_972 : decode c_L_law 972 = .ok (.ireturn, 1) := by decide +kernel
theorem d_L_law_973 : decode c_L_law 973 = .ok (.iload 5, 2) := by decide +kernel
theorem d_L_law_975 : decode c_L_law 975 = .ok (.ifCond .ne 15, 3) := by decide +kernel
theorem d_L_law_978 : decode c_L_law 978 = .ok (.aload_n 3, 1) := by decide +kernel
theorem d_L_law_979 : decode c_L_law 979 = .ok (.iconst 0, 1) := by decide +kernel
theorem d_L_law_980 : decode c_L_law 980 = .ok (.laload, 1) := by decide +kernel
theorem d_L_law_981 : decode c_L_law 981 = .ok (.iload 6, 2) := by decide +kernel
theorem d_L_law_983 : decode c_L_law 983 = .ok (.i2l, 1) := by decide +kernel
theorem d_L_law_984 : decode c_L_law 984 = .ok (.lcmp, 1) := by decide +kernel
theorem d_L_law_985 : decode c_L_law 985 = .ok (.ifCond .eq 5, 3) := by decide +kernel
theorem d_L_law_988 : decode c_L_law 988 = .ok (.iconst 0, 1) := by decide +kernel
theorem d_L_law_989 : decode c_L_law 989 = .ok (.ireturn, 1) := by decide +kernel
theorem d_L_law_990 : decode c_L_law 990 = .ok (.goto 59, 3) := by decide +kernel
theorem d_L_law_993 : decode c_L_law 993 = .ok (.aload_n 1, 1) := by decide +kernel
theorem d_L_law_994 : decode c_L_law 994 = .ok (.aload_n 0, 1) := by decide +kernel
theorem d_L_law_995 : decode c_L_law 995 = .ok (.iload 4, 2) := by decide +kernel
theorem d_L_law_997 : decode c_L_law 997 = .ok (.iconst 1, 1) := by decide +kernel
theorem d_L_law_998 : decode c_L_law 998 = .ok (.iadd, 1) := by decide +kernel
theorem d_L_law_999 : decode c_L_law 999 = .ok (.iaload, 1) := by decide +kernel
theorem d_L_law_1000 : decode c_L_law 1000 = .ok (.aload_n 3, 1) := by decide +kernel
theorem d_L_law_1001 : decode c_L_law 1001 = .ok (.invokestatic 129, 3) := by decide +kernel
theorem d_L_law_1004 : decode c_L_law 1004 = .ok (.istore 5, 2) := by decide +kernel
theorem d_L_law_1006 : decode c_L_law 1006 = .ok (.aload_n 2, 1) := by decide +kernel
theorem d_L_law_1007 : decode c_L_law 1007 = .ok (.aload_n 0, 1) := by decide +kernel
theorem d_L_law_1008 : decode c_L_law 1008 = .ok (.iload 4, 2) := by decide +kernel
theorem d_L_law_1010 : decode c_L_law 1010 = .ok (.iconst 1, 1) := by decide +kernel
theorem d_L_law_1011 : decode c_L_law 1011 = .ok (.iadd, 1) := by decide +kernel
theorem d_L_law_1012 : decode c_L_law 1012 = .ok (.iaload, 1) := by decide +kernel
theorem d_L_law_1013 : decode c_L_law 1013 = .ok (.invokevirtual 131, 3) := by decide +kernel
theorem d_L_law_1016 : decode c_L_law 1016 = .ok (.istore 6, 2) := by decide +kernel
theorem d_L_law_1018 : decode c_L_law 1018 = .ok (.aload_n 2, 1) := by decide +kernel
theorem d_L_law_1019 : decode c_L_law 1019 = .ok (.invokevirtual 80, 3) := by decide +kernel
theorem d_L_law_1022 : decode c_L_law 1022 = .ok (.iload 5, 2) := by decide +kernel
theorem d_L_law_1024 : decode c_L_law 1024 = .ok (.if_icmp .eq 5, 3) := by decide +kernel
theorem d_L_law_1027 : decode c_L_law 1027 = .ok (.iconst 0, 1) := by decide +kernel
theorem d_L_law_1028 : decode c_L_law 1028 = .ok (.ireturn, 1) := by decide +kernel
theorem d_L_law_1029 : decode c_L_law 1029 = .ok (.iload 5, 2) := by decide +kernel
theorem d_L_law_1031 : decode c_L_law 1031 = .ok (.ifCond .ne 15, 3) := by decide +kernel
theorem d_L_law_1034 : decode c_L_law 1034 = .ok (.aload_n 3, 1) := by decide +kernel
theorem d_L_law_1035 : decode c_L_law 1035 = .ok (.iconst 0, 1) := by decide +kernel
theorem d_L_law_1036 : decode c_L_law 1036 = .ok (.laload, 1) := by decide +kernel
theorem d_L_law_1037 : decode c_L_law 1037 = .ok (.iload 6, 2) := by decide +kernel
theorem d_L_law_1039 : decode c_L_law 1039 = .ok (.i2l, 1) := by decide +kernel
theorem d_L_law_1040 : decode c_L_law 1040 = .ok (.lcmp, 1) := by decide +kernel
theorem d_L_law_1041 : decode c_L_law 1041 = .ok (.ifCond .eq 5, 3) := by decide +kernel
theorem d_L_law_1044 : decode c_L_law 1044 = .ok (.iconst 0, 1) := by decide +kernel
theorem d_L_law_1045 : decode c_L_law 1045 = .ok (.ireturn, 1) := by decide +kernel
theorem d_L_law_1046 : decode c_L_law 1046 = .ok (.goto 3, 3) := by decide +kernel
theorem d_L_law_1049 : decode c_L_law 1049 = .ok (.iinc 4 7, 3) := by decide +kernel
theorem d_L_law_1052 : decode c_L_law 1052 = .ok (.goto (-1019), 3) := by decide +kernel
theorem d_L_law_1055 : decode c_L_law 1055 = .ok (.iconst 1, 1) := by decide +kernel
theorem d_L_law_1056 : decode c_L_law 1056 = .ok (.ireturn, 1) := by decide +kernel
