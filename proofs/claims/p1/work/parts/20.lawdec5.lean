theorem dl_970 : decode code 970 = .ok (.iadd, 1) := by decide +kernel
theorem dl_971 : decode code 971 = .ok (.iaload, 1) := by decide +kernel
theorem dl_972 : decode code 972 = .ok (.ifCond .eq 7, 3) := by decide +kernel
theorem dl_975 : decode code 975 = .ok (.iconst 1, 1) := by decide +kernel
theorem dl_976 : decode code 976 = .ok (.goto 4, 3) := by decide +kernel
theorem dl_979 : decode code 979 = .ok (.iconst 0, 1) := by decide +kernel
theorem dl_980 : decode code 980 = .ok (.aload_n 0, 1) := by decide +kernel
theorem dl_981 : decode code 981 = .ok (.iload_n 3, 1) := by decide +kernel
theorem dl_982 : decode code 982 = .ok (.iconst 2, 1) := by decide +kernel
theorem dl_983 : decode code 983 = .ok (.iadd, 1) := by decide +kernel
theorem dl_984 : decode code 984 = .ok (.iaload, 1) := by decide +kernel
theorem dl_985 : decode code 985 = .ok (.invokevirtual 120, 3) := by decide +kernel
theorem dl_988 : decode code 988 = .ok (.if_icmp .eq 238, 3) := by decide +kernel
theorem dl_993 : decode code 993 = .ok (.aload_n 1, 1) := by decide +kernel
theorem dl_994 : decode code 994 = .ok (.aload_n 0, 1) := by decide +kernel
theorem dl_995 : decode code 995 = .ok (.iload_n 3, 1) := by decide +kernel
theorem dl_996 : decode code 996 = .ok (.iconst 1, 1) := by decide +kernel
theorem dl_997 : decode code 997 = .ok (.iadd, 1) := by decide +kernel
theorem dl_998 : decode code 998 = .ok (.iaload, 1) := by decide +kernel
theorem dl_999 : decode code 999 = .ok (.ifCond .eq 7, 3) := by decide +kernel
theorem dl_1002 : decode code 1002 = .ok (.iconst 1, 1) := by decide +kernel
theorem dl_1003 : decode code 1003 = .ok (.goto 4, 3) := by decide +kernel
theorem dl_1006 : decode code 1006 = .ok (.iconst 0, 1) := by decide +kernel
theorem dl_1007 : decode code 1007 = .ok (.invokevirtual 121, 3) := by decide +kernel
theorem dl_1010 : decode code 1010 = .ok (.aload_n 2, 1) := by decide +kernel
theorem dl_1011 : decode code 1011 = .ok (.aload_n 0, 1) := by decide +kernel
theorem dl_1012 : decode code 1012 = .ok (.iload_n 3, 1) := by decide +kernel
theorem dl_1013 : decode code 1013 = .ok (.iconst 1, 1) := by decide +kernel
theorem dl_1014 : decode code 1014 = .ok (.iadd, 1) := by decide +kernel
theorem dl_1015 : decode code 1015 = .ok (.iaload, 1) := by decide +kernel
theorem dl_1016 : decode code 1016 = .ok (.ifCond .eq 7, 3) := by decide +kernel
theorem dl_1019 : decode code 1019 = .ok (.iconst 1, 1) := by decide +kernel
theorem dl_1020 : decode code 1020 = .ok (.goto 4, 3) := by decide +kernel
theorem dl_1023 : decode code 1023 = .ok (.iconst 0, 1) := by decide +kernel
theorem dl_1024 : decode code 1024 = .ok (.invokevirtual 124, 3) := by decide +kernel
theorem dl_1027 : decode code 1027 = .ok (.if_icmp .eq 199, 3) := by decide +kernel
theorem dl_1032 : decode code 1032 = .ok (.aload_n 1, 1) := by decide +kernel
theorem dl_1033 : decode code 1033 = .ok (.invokevirtual 125, 3) := by decide +kernel
theorem dl_1036 : decode code 1036 = .ok (.aload_n 2, 1) := by decide +kernel
theorem dl_1037 : decode code 1037 = .ok (.invokevirtual 128, 3) := by decide +kernel
theorem dl_1040 : decode code 1040 = .ok (.if_icmp .eq 186, 3) := by decide +kernel
theorem dl_1045 : decode code 1045 = .ok (.aload_n 1, 1) := by decide +kernel
theorem dl_1046 : decode code 1046 = .ok (.aload_n 0, 1) := by decide +kernel
theorem dl_1047 : decode code 1047 = .ok (.iload_n 3, 1) := by decide +kernel
theorem dl_1048 : decode code 1048 = .ok (.iconst 1, 1) := by decide +kernel
theorem dl_1049 : decode code 1049 = .ok (.iadd, 1) := by decide +kernel
theorem dl_1050 : decode code 1050 = .ok (.iaload, 1) := by decide +kernel
theorem dl_1051 : decode code 1051 = .ok (.invokevirtual 129, 3) := by decide +kernel
theorem dl_1054 : decode code 1054 = .ok (.aload_n 2, 1) := by decide +kernel
theorem dl_1055 : decode code 1055 = .ok (.aload_n 0, 1) := by decide +kernel
theorem dl_1056 : decode code 1056 = .ok (.iload_n 3, 1) := by decide +kernel
theorem dl_1057 : decode code 1057 = .ok (.iconst 1, 1) := by decide +kernel
theorem dl_1058 : decode code 1058 = .ok (.iadd, 1) := by decide +kernel
theorem dl_1059 : decode code 1059 = .ok (.iaload, 1) := by decide +kernel
theorem dl_1060 : decode code 1060 = .ok (.invokevirtual 132, 3) := by decide +kernel
theorem dl_1063 : decode code 1063 = .ok (.if_icmp .eq 163, 3) := by decide +kernel
theorem dl_1068 : decode code 1068 = .ok (.aload_n 1, 1) := by decide +kernel
theorem dl_1069 : decode code 1069 = .ok (.aload_n 0, 1) := by decide +kernel
theorem dl_1070 : decode code 1070 = .ok (.iload_n 3, 1) := by decide +kernel
theorem dl_1071 : decode code 1071 = .ok (.iconst 1, 1) := by decide +kernel
theorem dl_1072 : decode code 1072 = .ok (.iadd, 1) := by decide +kernel
theorem dl_1073 : decode code 1073 = .ok (.iaload, 1) := by decide +kernel
theorem dl_1074 : decode code 1074 = .ok (.invokevirtual 133, 3) := by decide +kernel
theorem dl_1077 : decode code 1077 = .ok (.aload_n 2, 1) := by decide +kernel
theorem dl_1078 : decode code 1078 = .ok (.aload_n 0, 1) := by decide +kernel
theorem dl_1079 : decode code 1079 = .ok (.iload_n 3, 1) := by decide +kernel
theorem dl_1080 : decode code 1080 = .ok (.iconst 1, 1) := by decide +kernel
theorem dl_1081 : decode code 1081 = .ok (.iadd, 1) := by decide +kernel
theorem dl_1082 : decode code 1082 = .ok (.iaload, 1) := by decide +kernel
theorem dl_1083 : decode code 1083 = .ok (.invokevirtual 136, 3) := by decide +kernel
theorem dl_1086 : decode code 1086 = .ok (.if_icmp .eq 140, 3) := by decide +kernel
theorem dl_1091 : decode code 1091 = .ok (.aload_n 1, 1) := by decide +kernel
theorem dl_1092 : decode code 1092 = .ok (.invokevirtual 137, 3) := by decide +kernel
theorem dl_1095 : decode code 1095 = .ok (.aload_n 2, 1) := by decide +kernel
theorem dl_1096 : decode code 1096 = .ok (.invokevirtual 140, 3) := by decide +kernel
theorem dl_1099 : decode code 1099 = .ok (.if_icmp .eq 127, 3) := by decide +kernel
theorem dl_1104 : decode code 1104 = .ok (.aload_n 1, 1) := by decide +kernel
theorem dl_1105 : decode code 1105 = .ok (.aload_n 0, 1) := by decide +kernel
theorem dl_1106 : decode code 1106 = .ok (.iload_n 3, 1) := by decide +kernel
theorem dl_1107 : decode code 1107 = .ok (.iconst 1, 1) := by decide +kernel
theorem dl_1108 : decode code 1108 = .ok (.iadd, 1) := by decide +kernel
theorem dl_1109 : decode code 1109 = .ok (.iaload, 1) := by decide +kernel
theorem dl_1110 : decode code 1110 = .ok (.invokevirtual 141, 3) := by decide +kernel
theorem dl_1113 : decode code 1113 = .ok (.aload_n 2, 1) := by decide +kernel
theorem dl_1114 : decode code 1114 = .ok (.aload_n 0, 1) := by decide +kernel
theorem dl_1115 : decode code 1115 = .ok (.iload_n 3, 1) := by decide +kernel
theorem dl_1116 : decode code 1116 = .ok (.iconst 1, 1) := by decide +kernel
theorem dl_1117 : decode code 1117 = .ok (.iadd, 1) := by decide +kernel
theorem dl_1118 : decode code 1118 = .ok (.iaload, 1) := by decide +kernel
theorem dl_1119 : decode code 1119 = .ok (.invokevirtual 144, 3) := by decide +kernel
theorem dl_1122 : decode code 1122 = .ok (.if_icmp .eq 104, 3) := by decide +kernel
theorem dl_1127 : decode code 1127 = .ok (.aload_n 1, 1) := by decide +kernel
theorem dl_1128 : decode code 1128 = .ok (.invokevirtual 145, 3) := by decide +kernel
theorem dl_1131 : decode code 1131 = .ok (.aload_n 2, 1) := by decide +kernel
theorem dl_1132 : decode code 1132 = .ok (.invokevirtual 148, 3) := by decide +kernel
theorem dl_1135 : decode code 1135 = .ok (.if_icmp .eq 91, 3) := by decide +kernel
theorem dl_1140 : decode code 1140 = .ok (.aload_n 1, 1) := by decide +kernel
theorem dl_1141 : decode code 1141 = .ok (.invokevirtual 149, 3) := by decide +kernel
theorem dl_1144 : decode code 1144 = .ok (.aload_n 2, 1) := by decide +kernel
theorem dl_1145 : decode code 1145 = .ok (.invokevirtual 153, 3) := by decide +kernel
theorem dl_1148 : decode code 1148 = .ok (.lcmp, 1) := by decide +kernel
theorem dl_1149 : decode code 1149 = .ok (.ifCond .eq 77, 3) := by decide +kernel
theorem dl_1154 : decode code 1154 = .ok (.aload_n 1, 1) := by decide +kernel
theorem dl_1155 : decode code 1155 = .ok (.invokevirtual 154, 3) := by decide +kernel
theorem dl_1158 : decode code 1158 = .ok (.aload_n 2, 1) := by decide +kernel
theorem dl_1159 : decode code 1159 = .ok (.invokevirtual 157, 3) := by decide +kernel
theorem dl_1162 : decode code 1162 = .ok (.if_icmp .eq 64, 3) := by decide +kernel
theorem dl_1167 : decode code 1167 = .ok (.aload_n 1, 1) := by decide +kernel
theorem dl_1168 : decode code 1168 = .ok (.aload_n 0, 1) := by decide +kernel
theorem dl_1169 : decode code 1169 = .ok (.iload_n 3, 1) := by decide +kernel
