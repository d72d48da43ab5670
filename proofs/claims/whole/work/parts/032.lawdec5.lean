theorem dL_law_962 : decode code 962 = .ok (.aload_n 1, 1) := by decide +kernel
theorem dL_law_963 : decode code 963 = .ok (.aload_n 0, 1) := by decide +kernel
theorem dL_law_964 : decode code 964 = .ok (.iload 4, 2) := by decide +kernel
theorem dL_law_966 : decode code 966 = .ok (.iconst 1, 1) := by decide +kernel
theorem dL_law_967 : decode code 967 = .ok (.iadd, 1) := by decide +kernel
theorem dL_law_968 : decode code 968 = .ok (.iaload, 1) := by decide +kernel
theorem dL_law_969 : decode code 969 = .ok (.aload_n 0, 1) := by decide +kernel
theorem dL_law_970 : decode code 970 = .ok (.iload 4, 2) := by decide +kernel
theorem dL_law_972 : decode code 972 = .ok (.iconst 2, 1) := by decide +kernel
theorem dL_law_973 : decode code 973 = .ok (.iadd, 1) := by decide +kernel
theorem dL_law_974 : decode code 974 = .ok (.iaload, 1) := by decide +kernel
theorem dL_law_975 : decode code 975 = .ok (.aload_n 0, 1) := by decide +kernel
theorem dL_law_976 : decode code 976 = .ok (.iload 4, 2) := by decide +kernel
theorem dL_law_978 : decode code 978 = .ok (.iconst 3, 1) := by decide +kernel
theorem dL_law_979 : decode code 979 = .ok (.iadd, 1) := by decide +kernel
theorem dL_law_980 : decode code 980 = .ok (.iaload, 1) := by decide +kernel
theorem dL_law_981 : decode code 981 = .ok (.aload_n 3, 1) := by decide +kernel
theorem dL_law_982 : decode code 982 = .ok (.invokestatic 113, 3) := by decide +kernel
theorem dL_law_985 : decode code 985 = .ok (.istore 5, 2) := by decide +kernel
theorem dL_law_987 : decode code 987 = .ok (.aload_n 2, 1) := by decide +kernel
theorem dL_law_988 : decode code 988 = .ok (.aload_n 0, 1) := by decide +kernel
theorem dL_law_989 : decode code 989 = .ok (.iload 4, 2) := by decide +kernel
theorem dL_law_991 : decode code 991 = .ok (.iconst 1, 1) := by decide +kernel
theorem dL_law_992 : decode code 992 = .ok (.iadd, 1) := by decide +kernel
theorem dL_law_993 : decode code 993 = .ok (.iaload, 1) := by decide +kernel
theorem dL_law_994 : decode code 994 = .ok (.aload_n 0, 1) := by decide +kernel
theorem dL_law_995 : decode code 995 = .ok (.iload 4, 2) := by decide +kernel
theorem dL_law_997 : decode code 997 = .ok (.iconst 2, 1) := by decide +kernel
theorem dL_law_998 : decode code 998 = .ok (.iadd, 1) := by decide +kernel
theorem dL_law_999 : decode code 999 = .ok (.iaload, 1) := by decide +kernel
theorem dL_law_1000 : decode code 1000 = .ok (.aload_n 0, 1) := by decide +kernel
theorem dL_law_1001 : decode code 1001 = .ok (.iload 4, 2) := by decide +kernel
theorem dL_law_1003 : decode code 1003 = .ok (.iconst 3, 1) := by decide +kernel
theorem dL_law_1004 : decode code 1004 = .ok (.iadd, 1) := by decide +kernel
theorem dL_law_1005 : decode code 1005 = .ok (.iaload, 1) := by decide +kernel
theorem dL_law_1006 : decode code 1006 = .ok (.invokevirtual 115, 3) := by decide +kernel
theorem dL_law_1009 : decode code 1009 = .ok (.istore 6, 2) := by decide +kernel
theorem dL_law_1011 : decode code 1011 = .ok (.aload_n 2, 1) := by decide +kernel
theorem dL_law_1012 : decode code 1012 = .ok (.invokevirtual 72, 3) := by decide +kernel
theorem dL_law_1015 : decode code 1015 = .ok (.iload 5, 2) := by decide +kernel
theorem dL_law_1017 : decode code 1017 = .ok (.if_icmp .eq 5, 3) := by decide +kernel
theorem dL_law_1020 : decode code 1020 = .ok (.iconst 0, 1) := by decide +kernel
theorem dL_law_1021 : decode code 1021 = .ok (.ireturn, 1) := by decide +kernel
theorem dL_law_1022 : decode code 1022 = .ok (.iload 5, 2) := by decide +kernel
theorem dL_law_1024 : decode code 1024 = .ok (.ifCond .ne 15, 3) := by decide +kernel
theorem dL_law_1027 : decode code 1027 = .ok (.aload_n 3, 1) := by decide +kernel
theorem dL_law_1028 : decode code 1028 = .ok (.iconst 0, 1) := by decide +kernel
theorem dL_law_1029 : decode code 1029 = .ok (.laload, 1) := by decide +kernel
theorem dL_law_1030 : decode code 1030 = .ok (.iload 6, 2) := by decide +kernel
theorem dL_law_1032 : decode code 1032 = .ok (.i2l, 1) := by decide +kernel
theorem dL_law_1033 : decode code 1033 = .ok (.lcmp, 1) := by decide +kernel
theorem dL_law_1034 : decode code 1034 = .ok (.ifCond .eq 5, 3) := by decide +kernel
theorem dL_law_1037 : decode code 1037 = .ok (.iconst 0, 1) := by decide +kernel
theorem dL_law_1038 : decode code 1038 = .ok (.ireturn, 1) := by decide +kernel
theorem dL_law_1039 : decode code 1039 = .ok (.goto 71, 3) := by decide +kernel
theorem dL_law_1042 : decode code 1042 = .ok (.aload_n 1, 1) := by decide +kernel
theorem dL_law_1043 : decode code 1043 = .ok (.aload_n 0, 1) := by decide +kernel
theorem dL_law_1044 : decode code 1044 = .ok (.iload 4, 2) := by decide +kernel
theorem dL_law_1046 : decode code 1046 = .ok (.iconst 1, 1) := by decide +kernel
theorem dL_law_1047 : decode code 1047 = .ok (.iadd, 1) := by decide +kernel
theorem dL_law_1048 : decode code 1048 = .ok (.iaload, 1) := by decide +kernel
theorem dL_law_1049 : decode code 1049 = .ok (.aload_n 0, 1) := by decide +kernel
theorem dL_law_1050 : decode code 1050 = .ok (.iload 4, 2) := by decide +kernel
theorem dL_law_1052 : decode code 1052 = .ok (.iconst 2, 1) := by decide +kernel
theorem dL_law_1053 : decode code 1053 = .ok (.iadd, 1) := by decide +kernel
theorem dL_law_1054 : decode code 1054 = .ok (.iaload, 1) := by decide +kernel
theorem dL_law_1055 : decode code 1055 = .ok (.aload_n 3, 1) := by decide +kernel
theorem dL_law_1056 : decode code 1056 = .ok (.invokestatic 116, 3) := by decide +kernel
theorem dL_law_1059 : decode code 1059 = .ok (.istore 5, 2) := by decide +kernel
theorem dL_law_1061 : decode code 1061 = .ok (.aload_n 2, 1) := by decide +kernel
theorem dL_law_1062 : decode code 1062 = .ok (.aload_n 0, 1) := by decide +kernel
theorem dL_law_1063 : decode code 1063 = .ok (.iload 4, 2) := by decide +kernel
theorem dL_law_1065 : decode code 1065 = .ok (.iconst 1, 1) := by decide +kernel
theorem dL_law_1066 : decode code 1066 = .ok (.iadd, 1) := by decide +kernel
theorem dL_law_1067 : decode code 1067 = .ok (.iaload, 1) := by decide +kernel
theorem dL_law_1068 : decode code 1068 = .ok (.aload_n 0, 1) := by decide +kernel
theorem dL_law_1069 : decode code 1069 = .ok (.iload 4, 2) := by decide +kernel
theorem dL_law_1071 : decode code 1071 = .ok (.iconst 2, 1) := by decide +kernel
theorem dL_law_1072 : decode code 1072 = .ok (.iadd, 1) := by decide +kernel
theorem dL_law_1073 : decode code 1073 = .ok (.iaload, 1) := by decide +kernel
theorem dL_law_1074 : decode code 1074 = .ok (.invokevirtual 118, 3) := by decide +kernel
theorem dL_law_1077 : decode code 1077 = .ok (.istore 6, 2) := by decide +kernel
theorem dL_law_1079 : decode code 1079 = .ok (.aload_n 2, 1) := by decide +kernel
theorem dL_law_1080 : decode code 1080 = .ok (.invokevirtual 72, 3) := by decide +kernel
theorem dL_law_1083 : decode code 1083 = .ok (.iload 5, 2) := by decide +kernel
theorem dL_law_1085 : decode code 1085 = .ok (.if_icmp .eq 5, 3) := by decide +kernel
theorem dL_law_1088 : decode code 1088 = .ok (.iconst 0, 1) := by decide +kernel
theorem dL_law_1089 : decode code 1089 = .ok (.ireturn, 1) := by decide +kernel
theorem dL_law_1090 : decode code 1090 = .ok (.iload 5, 2) := by decide +kernel
theorem dL_law_1092 : decode code 1092 = .ok (.ifCond .ne 15, 3) := by decide +kernel
theorem dL_law_1095 : decode code 1095 = .ok (.aload_n 3, 1) := by decide +kernel
theorem dL_law_1096 : decode code 1096 = .ok (.iconst 0, 1) := by decide +kernel
theorem dL_law_1097 : decode code 1097 = .ok (.laload, 1) := by decide +kernel
theorem dL_law_1098 : decode code 1098 = .ok (.iload 6, 2) := by decide +kernel
theorem dL_law_1100 : decode code 1100 = .ok (.i2l, 1) := by decide +kernel
theorem dL_law_1101 : decode code 1101 = .ok (.lcmp, 1) := by decide +kernel
theorem dL_law_1102 : decode code 1102 = .ok (.ifCond .eq 5, 3) := by decide +kernel
theorem dL_law_1105 : decode code 1105 = .ok (.iconst 0, 1) := by decide +kernel
theorem dL_law_1106 : decode code 1106 = .ok (.ireturn, 1) := by decide +kernel
theorem dL_law_1107 : decode code 1107 = .ok (.goto 3, 3) := by decide +kernel
theorem dL_law_1110 : decode code 1110 = .ok (.iinc 4 5, 3) := by decide +kernel
theorem dL_law_1113 : decode code 1113 = .ok (.goto (-1090), 3) := by decide +kernel
theorem dL_law_1116 : decode code 1116 = .ok (.iconst 1, 1) := by decide +kernel
theorem dL_law_1117 : decode code 1117 = .ok (.ireturn, 1) := by decide +kernel
