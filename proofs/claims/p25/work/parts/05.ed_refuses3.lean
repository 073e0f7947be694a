theorem dL_refuses_984 : decode cL_refuses 984 = .ok (.bipush 9, 2) := by decide +kernel
theorem dL_refuses_986 : decode cL_refuses 986 = .ok (.iconst 0, 1) := by decide +kernel
theorem dL_refuses_987 : decode cL_refuses 987 = .ok (.iconst 0, 1) := by decide +kernel
theorem dL_refuses_988 : decode cL_refuses 988 = .ok (.invokestatic 108, 3) := by decide +kernel
theorem dL_refuses_991 : decode cL_refuses 991 = .ok (.bipush (-71), 2) := by decide +kernel
theorem dL_refuses_993 : decode cL_refuses 993 = .ok (.if_icmp .ne 109, 3) := by decide +kernel
theorem dL_refuses_996 : decode cL_refuses 996 = .ok (.aload_n 0, 1) := by decide +kernel
theorem dL_refuses_997 : decode cL_refuses 997 = .ok (.iconst 0, 1) := by decide +kernel
theorem dL_refuses_998 : decode cL_refuses 998 = .ok (.iload 13, 2) := by decide +kernel
theorem dL_refuses_1000 : decode cL_refuses 1000 = .ok (.iconst 0, 1) := by decide +kernel
theorem dL_refuses_1001 : decode cL_refuses 1001 = .ok (.bipush 9, 2) := by decide +kernel
theorem dL_refuses_1003 : decode cL_refuses 1003 = .ok (.iconst 0, 1) := by decide +kernel
theorem dL_refuses_1004 : decode cL_refuses 1004 = .ok (.iconst 0, 1) := by decide +kernel
theorem dL_refuses_1005 : decode cL_refuses 1005 = .ok (.invokestatic 108, 3) := by decide +kernel
theorem dL_refuses_1008 : decode cL_refuses 1008 = .ok (.bipush (-71), 2) := by decide +kernel
theorem dL_refuses_1010 : decode cL_refuses 1010 = .ok (.if_icmp .ne 92, 3) := by decide +kernel
theorem dL_refuses_1013 : decode cL_refuses 1013 = .ok (.aload_n 0, 1) := by decide +kernel
theorem dL_refuses_1014 : decode cL_refuses 1014 = .ok (.iconst 0, 1) := by decide +kernel
theorem dL_refuses_1015 : decode cL_refuses 1015 = .ok (.iconst 0, 1) := by decide +kernel
theorem dL_refuses_1016 : decode cL_refuses 1016 = .ok (.iload 12, 2) := by decide +kernel
theorem dL_refuses_1018 : decode cL_refuses 1018 = .ok (.bipush 9, 2) := by decide +kernel
theorem dL_refuses_1020 : decode cL_refuses 1020 = .ok (.iconst 0, 1) := by decide +kernel
theorem dL_refuses_1021 : decode cL_refuses 1021 = .ok (.iconst 0, 1) := by decide +kernel
theorem dL_refuses_1022 : decode cL_refuses 1022 = .ok (.invokestatic 108, 3) := by decide +kernel
theorem dL_refuses_1025 : decode cL_refuses 1025 = .ok (.bipush (-71), 2) := by decide +kernel
theorem dL_refuses_1027 : decode cL_refuses 1027 = .ok (.if_icmp .ne 75, 3) := by decide +kernel
theorem dL_refuses_1030 : decode cL_refuses 1030 = .ok (.aload_n 0, 1) := by decide +kernel
theorem dL_refuses_1031 : decode cL_refuses 1031 = .ok (.iconst 0, 1) := by decide +kernel
theorem dL_refuses_1032 : decode cL_refuses 1032 = .ok (.iconst 0, 1) := by decide +kernel
theorem dL_refuses_1033 : decode cL_refuses 1033 = .ok (.iconst 0, 1) := by decide +kernel
theorem dL_refuses_1034 : decode cL_refuses 1034 = .ok (.bipush 9, 2) := by decide +kernel
theorem dL_refuses_1036 : decode cL_refuses 1036 = .ok (.iconst 0, 1) := by decide +kernel
theorem dL_refuses_1037 : decode cL_refuses 1037 = .ok (.iload 8, 2) := by decide +kernel
theorem dL_refuses_1039 : decode cL_refuses 1039 = .ok (.ifCond .ne 7, 3) := by decide +kernel
theorem dL_refuses_1042 : decode cL_refuses 1042 = .ok (.iconst (-1), 1) := by decide +kernel
theorem dL_refuses_1043 : decode cL_refuses 1043 = .ok (.goto 31, 3) := by decide +kernel
theorem dL_refuses_1046 : decode cL_refuses 1046 = .ok (.iload 8, 2) := by decide +kernel
theorem dL_refuses_1048 : decode cL_refuses 1048 = .ok (.iconst 1, 1) := by decide +kernel
theorem dL_refuses_1049 : decode cL_refuses 1049 = .ok (.if_icmp .ne 8, 3) := by decide +kernel
theorem dL_refuses_1052 : decode cL_refuses 1052 = .ok (.bipush (-7), 2) := by decide +kernel
theorem dL_refuses_1054 : decode cL_refuses 1054 = .ok (.goto 20, 3) := by decide +kernel
theorem dL_refuses_1057 : decode cL_refuses 1057 = .ok (.iload 8, 2) := by decide +kernel
theorem dL_refuses_1059 : decode cL_refuses 1059 = .ok (.iconst 2, 1) := by decide +kernel
theorem dL_refuses_1060 : decode cL_refuses 1060 = .ok (.if_icmp .ne 9, 3) := by decide +kernel
theorem dL_refuses_1063 : decode cL_refuses 1063 = .ok (.iload 7, 2) := by decide +kernel
theorem dL_refuses_1065 : decode cL_refuses 1065 = .ok (.ineg, 1) := by decide +kernel
theorem dL_refuses_1066 : decode cL_refuses 1066 = .ok (.goto 8, 3) := by decide +kernel
theorem dL_refuses_1069 : decode cL_refuses 1069 = .ok (.iload 7, 2) := by decide +kernel
theorem dL_refuses_1071 : decode cL_refuses 1071 = .ok (.ineg, 1) := by decide +kernel
theorem dL_refuses_1072 : decode cL_refuses 1072 = .ok (.iconst 1, 1) := by decide +kernel
theorem dL_refuses_1073 : decode cL_refuses 1073 = .ok (.isub, 1) := by decide +kernel
theorem dL_refuses_1074 : decode cL_refuses 1074 = .ok (.invokestatic 108, 3) := by decide +kernel
theorem dL_refuses_1077 : decode cL_refuses 1077 = .ok (.bipush (-71), 2) := by decide +kernel
theorem dL_refuses_1079 : decode cL_refuses 1079 = .ok (.if_icmp .ne 23, 3) := by decide +kernel
theorem dL_refuses_1082 : decode cL_refuses 1082 = .ok (.aload_n 0, 1) := by decide +kernel
theorem dL_refuses_1083 : decode cL_refuses 1083 = .ok (.iconst 0, 1) := by decide +kernel
theorem dL_refuses_1084 : decode cL_refuses 1084 = .ok (.iconst 0, 1) := by decide +kernel
theorem dL_refuses_1085 : decode cL_refuses 1085 = .ok (.iconst 0, 1) := by decide +kernel
theorem dL_refuses_1086 : decode cL_refuses 1086 = .ok (.iload 13, 2) := by decide +kernel
theorem dL_refuses_1088 : decode cL_refuses 1088 = .ok (.iconst 0, 1) := by decide +kernel
theorem dL_refuses_1089 : decode cL_refuses 1089 = .ok (.iconst 0, 1) := by decide +kernel
theorem dL_refuses_1090 : decode cL_refuses 1090 = .ok (.invokestatic 108, 3) := by decide +kernel
theorem dL_refuses_1093 : decode cL_refuses 1093 = .ok (.bipush (-72), 2) := by decide +kernel
theorem dL_refuses_1095 : decode cL_refuses 1095 = .ok (.if_icmp .ne 7, 3) := by decide +kernel
theorem dL_refuses_1098 : decode cL_refuses 1098 = .ok (.iconst 1, 1) := by decide +kernel
theorem dL_refuses_1099 : decode cL_refuses 1099 = .ok (.goto 4, 3) := by decide +kernel
theorem dL_refuses_1102 : decode cL_refuses 1102 = .ok (.iconst 0, 1) := by decide +kernel
theorem dL_refuses_1103 : decode cL_refuses 1103 = .ok (.istore 19, 2) := by decide +kernel
theorem dL_refuses_1105 : decode cL_refuses 1105 = .ok (.iload 19, 2) := by decide +kernel
theorem dL_refuses_1107 : decode cL_refuses 1107 = .ok (.ifCond .ne 5, 3) := by decide +kernel
theorem dL_refuses_1110 : decode cL_refuses 1110 = .ok (.iconst 0, 1) := by decide +kernel
theorem dL_refuses_1111 : decode cL_refuses 1111 = .ok (.ireturn, 1) := by decide +kernel
theorem dL_refuses_1112 : decode cL_refuses 1112 = .ok (.iinc 8 1, 3) := by decide +kernel
theorem dL_refuses_1115 : decode cL_refuses 1115 = .ok (.goto (-1083), 3) := by decide +kernel
theorem dL_refuses_1118 : decode cL_refuses 1118 = .ok (.aload_n 0, 1) := by decide +kernel
theorem dL_refuses_1119 : decode cL_refuses 1119 = .ok (.invokevirtual 83, 3) := by decide +kernel
theorem dL_refuses_1122 : decode cL_refuses 1122 = .ok (.iload_n 3, 1) := by decide +kernel
theorem dL_refuses_1123 : decode cL_refuses 1123 = .ok (.if_icmp .ne 52, 3) := by decide +kernel
theorem dL_refuses_1126 : decode cL_refuses 1126 = .ok (.aload_n 0, 1) := by decide +kernel
theorem dL_refuses_1127 : decode cL_refuses 1127 = .ok (.iconst 0, 1) := by decide +kernel
theorem dL_refuses_1128 : decode cL_refuses 1128 = .ok (.invokevirtual 48, 3) := by decide +kernel
theorem dL_refuses_1131 : decode cL_refuses 1131 = .ok (.iload 4, 2) := by decide +kernel
theorem dL_refuses_1133 : decode cL_refuses 1133 = .ok (.if_icmp .ne 42, 3) := by decide +kernel
theorem dL_refuses_1136 : decode cL_refuses 1136 = .ok (.aload_n 0, 1) := by decide +kernel
theorem dL_refuses_1137 : decode cL_refuses 1137 = .ok (.iconst 1, 1) := by decide +kernel
theorem dL_refuses_1138 : decode cL_refuses 1138 = .ok (.invokevirtual 48, 3) := by decide +kernel
theorem dL_refuses_1141 : decode cL_refuses 1141 = .ok (.iload 5, 2) := by decide +kernel
theorem dL_refuses_1143 : decode cL_refuses 1143 = .ok (.if_icmp .ne 32, 3) := by decide +kernel
theorem dL_refuses_1146 : decode cL_refuses 1146 = .ok (.aload_n 0, 1) := by decide +kernel
theorem dL_refuses_1147 : decode cL_refuses 1147 = .ok (.invokevirtual 87, 3) := by decide +kernel
theorem dL_refuses_1150 : decode cL_refuses 1150 = .ok (.iload 6, 2) := by decide +kernel
theorem dL_refuses_1152 : decode cL_refuses 1152 = .ok (.if_icmp .ne 23, 3) := by decide +kernel
theorem dL_refuses_1155 : decode cL_refuses 1155 = .ok (.iload_n 3, 1) := by decide +kernel
theorem dL_refuses_1156 : decode cL_refuses 1156 = .ok (.ifCond .eq 15, 3) := by decide +kernel
theorem dL_refuses_1159 : decode cL_refuses 1159 = .ok (.aload_n 0, 1) := by decide +kernel
theorem dL_refuses_1160 : decode cL_refuses 1160 = .ok (.iconst 0, 1) := by decide +kernel
theorem dL_refuses_1161 : decode cL_refuses 1161 = .ok (.iconst 0, 1) := by decide +kernel
theorem dL_refuses_1162 : decode cL_refuses 1162 = .ok (.iconst 0, 1) := by decide +kernel
theorem dL_refuses_1163 : decode cL_refuses 1163 = .ok (.invokestatic 92, 3) := by decide +kernel
theorem dL_refuses_1166 : decode cL_refuses 1166 = .ok (.bipush (-73), 2) := by decide +kernel
theorem dL_refuses_1168 : decode cL_refuses 1168 = .ok (.if_icmp .ne 7, 3) := by decide +kernel
theorem dL_refuses_1171 : decode cL_refuses 1171 = .ok (.iconst 1, 1) := by decide +kernel
theorem dL_refuses_1172 : decode cL_refuses 1172 = .ok (.goto 4, 3) := by decide +kernel
theorem dL_refuses_1175 : decode cL_refuses 1175 = .ok (.iconst 0, 1) := by decide +kernel
theorem dL_refuses_1176 : decode cL_refuses 1176 = .ok (.ireturn, 1) := by decide +kernel
