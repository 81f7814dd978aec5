theorem d_L_law_997 : decode c_L_law 997 = .ok (.iconst 2, 1) := by decide +kernel
theorem d_L_law_998 : decode c_L_law 998 = .ok (.iadd, 1) := by decide +kernel
theorem d_L_law_999 : decode c_L_law 999 = .ok (.iaload, 1) := by decide +kernel
theorem d_L_law_1000 : decode c_L_law 1000 = .ok (.aload_n 3, 1) := by decide +kernel
theorem d_L_law_1001 : decode c_L_law 1001 = .ok (.invokestatic 122, 3) := by decide +kernel
theorem d_L_law_1004 : decode c_L_law 1004 = .ok (.istore 5, 2) := by decide +kernel
theorem d_L_law_1006 : decode c_L_law 1006 = .ok (.aload_n 2, 1) := by decide +kernel
theorem d_L_law_1007 : decode c_L_law 1007 = .ok (.aload_n 0, 1) := by decide +kernel
theorem d_L_law_1008 : decode c_L_law 1008 = .ok (.iload 4, 2) := by decide +kernel
theorem d_L_law_1010 : decode c_L_law 1010 = .ok (.iconst 1, 1) := by decide +kernel
theorem d_L_law_1011 : decode c_L_law 1011 = .ok (.iadd, 1) := by decide +kernel
theorem d_L_law_1012 : decode c_L_law 1012 = .ok (.iaload, 1) := by decide +kernel
theorem d_L_law_1013 : decode c_L_law 1013 = .ok (.aload_n 0, 1) := by decide +kernel
theorem d_L_law_1014 : decode c_L_law 1014 = .ok (.iload 4, 2) := by decide +kernel
theorem d_L_law_1016 : decode c_L_law 1016 = .ok (.iconst 2, 1) := by decide +kernel
theorem d_L_law_1017 : decode c_L_law 1017 = .ok (.iadd, 1) := by decide +kernel
theorem d_L_law_1018 : decode c_L_law 1018 = .ok (.iaload, 1) := by decide +kernel
theorem d_L_law_1019 : decode c_L_law 1019 = .ok (.invokevirtual 124, 3) := by decide +kernel
theorem d_L_law_1022 : decode c_L_law 1022 = .ok (.lstore 6, 2) := by decide +kernel
theorem d_L_law_1024 : decode c_L_law 1024 = .ok (.aload_n 2, 1) := by decide +kernel
theorem d_L_law_1025 : decode c_L_law 1025 = .ok (.invokevirtual 87, 3) := by decide +kernel
theorem d_L_law_1028 : decode c_L_law 1028 = .ok (.iload 5, 2) := by decide +kernel
theorem d_L_law_1030 : decode c_L_law 1030 = .ok (.if_icmp .eq 5, 3) := by decide +kernel
theorem d_L_law_1033 : decode c_L_law 1033 = .ok (.iconst 0, 1) := by decide +kernel
theorem d_L_law_1034 : decode c_L_law 1034 = .ok (.ireturn, 1) := by decide +kernel
theorem d_L_law_1035 : decode c_L_law 1035 = .ok (.iload 5, 2) := by decide +kernel
theorem d_L_law_1037 : decode c_L_law 1037 = .ok (.ifCond .ne 14, 3) := by decide +kernel
theorem d_L_law_1040 : decode c_L_law 1040 = .ok (.aload_n 3, 1) := by decide +kernel
theorem d_L_law_1041 : decode c_L_law 1041 = .ok (.iconst 0, 1) := by decide +kernel
theorem d_L_law_1042 : decode c_L_law 1042 = .ok (.laload, 1) := by decide +kernel
theorem d_L_law_1043 : decode c_L_law 1043 = .ok (.lload 6, 2) := by decide +kernel
theorem d_L_law_1045 : decode c_L_law 1045 = .ok (.lcmp, 1) := by decide +kernel
theorem d_L_law_1046 : decode c_L_law 1046 = .ok (.ifCond .eq 5, 3) := by decide +kernel
theorem d_L_law_1049 : decode c_L_law 1049 = .ok (.iconst 0, 1) := by decide +kernel
theorem d_L_law_1050 : decode c_L_law 1050 = .ok (.ireturn, 1) := by decide +kernel
theorem d_L_law_1051 : decode c_L_law 1051 = .ok (.goto 409, 3) := by decide +kernel
theorem d_L_law_1054 : decode c_L_law 1054 = .ok (.aload_n 1, 1) := by decide +kernel
theorem d_L_law_1055 : decode c_L_law 1055 = .ok (.aload_n 0, 1) := by decide +kernel
theorem d_L_law_1056 : decode c_L_law 1056 = .ok (.iload 4, 2) := by decide +kernel
theorem d_L_law_1058 : decode c_L_law 1058 = .ok (.iconst 1, 1) := by decide +kernel
theorem d_L_law_1059 : decode c_L_law 1059 = .ok (.iadd, 1) := by decide +kernel
theorem d_L_law_1060 : decode c_L_law 1060 = .ok (.iaload, 1) := by decide +kernel
theorem d_L_law_1061 : decode c_L_law 1061 = .ok (.i2l, 1) := by decide +kernel
theorem d_L_law_1062 : decode c_L_law 1062 = .ok (.bipush 32, 2) := by decide +kernel
theorem d_L_law_1064 : decode c_L_law 1064 = .ok (.lshl, 1) := by decide +kernel
theorem d_L_law_1065 : decode c_L_law 1065 = .ok (.aload_n 0, 1) := by decide +kernel
theorem d_L_law_1066 : decode c_L_law 1066 = .ok (.iload 4, 2) := by decide +kernel
theorem d_L_law_1068 : decode c_L_law 1068 = .ok (.iconst 2, 1) := by decide +kernel
theorem d_L_law_1069 : decode c_L_law 1069 = .ok (.iadd, 1) := by decide +kernel
theorem d_L_law_1070 : decode c_L_law 1070 = .ok (.iaload, 1) := by decide +kernel
theorem d_L_law_1071 : decode c_L_law 1071 = .ok (.i2l, 1) := by decide +kernel
theorem d_L_law_1072 : decode c_L_law 1072 = .ok (.ldc2_w 81, 3) := by decide +kernel
theorem d_L_law_1075 : decode c_L_law 1075 = .ok (.land, 1) := by decide +kernel
theorem d_L_law_1076 : decode c_L_law 1076 = .ok (.lor, 1) := by decide +kernel
theorem d_L_law_1077 : decode c_L_law 1077 = .ok (.aload_n 3, 1) := by decide +kernel
theorem d_L_law_1078 : decode c_L_law 1078 = .ok (.invokestatic 125, 3) := by decide +kernel
theorem d_L_law_1081 : decode c_L_law 1081 = .ok (.istore 5, 2) := by decide +kernel
theorem d_L_law_1083 : decode c_L_law 1083 = .ok (.aload_n 2, 1) := by decide +kernel
theorem d_L_law_1084 : decode c_L_law 1084 = .ok (.aload_n 0, 1) := by decide +kernel
theorem d_L_law_1085 : decode c_L_law 1085 = .ok (.iload 4, 2) := by decide +kernel
theorem d_L_law_1087 : decode c_L_law 1087 = .ok (.iconst 1, 1) := by decide +kernel
theorem d_L_law_1088 : decode c_L_law 1088 = .ok (.iadd, 1) := by decide +kernel
theorem d_L_law_1089 : decode c_L_law 1089 = .ok (.iaload, 1) := by decide +kernel
theorem d_L_law_1090 : decode c_L_law 1090 = .ok (.i2l, 1) := by decide +kernel
theorem d_L_law_1091 : decode c_L_law 1091 = .ok (.bipush 32, 2) := by decide +kernel
theorem d_L_law_1093 : decode c_L_law 1093 = .ok (.lshl, 1) := by decide +kernel
theorem d_L_law_1094 : decode c_L_law 1094 = .ok (.aload_n 0, 1) := by decide +kernel
theorem d_L_law_1095 : decode c_L_law 1095 = .ok (.iload 4, 2) := by decide +kernel
theorem d_L_law_1097 : decode c_L_law 1097 = .ok (.iconst 2, 1) := by decide +kernel
theorem d_L_law_1098 : decode c_L_law 1098 = .ok (.iadd, 1) := by decide +kernel
theorem d_L_law_1099 : decode c_L_law 1099 = .ok (.iaload, 1) := by decide +kernel
theorem d_L_law_1100 : decode c_L_law 1100 = .ok (.i2l, 1) := by decide +kernel
theorem d_L_law_1101 : decode c_L_law 1101 = .ok (.ldc2_w 81, 3) := by decide +kernel
theorem d_L_law_1104 : decode c_L_law 1104 = .ok (.land, 1) := by decide +kernel
theorem d_L_law_1105 : decode c_L_law 1105 = .ok (.lor, 1) := by decide +kernel
theorem d_L_law_1106 : decode c_L_law 1106 = .ok (.invokevirtual 127, 3) := by decide +kernel
theorem d_L_law_1109 : decode c_L_law 1109 = .ok (.istore 6, 2) := by decide +kernel
theorem d_L_law_1111 : decode c_L_law 1111 = .ok (.aload_n 2, 1) := by decide +kernel
theorem d_L_law_1112 : decode c_L_law 1112 = .ok (.invokevirtual 87, 3) := by decide +kernel
theorem d_L_law_1115 : decode c_L_law 1115 = .ok (.iload 5, 2) := by decide +kernel
theorem d_L_law_1117 : decode c_L_law 1117 = .ok (.if_icmp .eq 5, 3) := by decide +kernel
theorem d_L_law_1120 : decode c_L_law 1120 = .ok (.iconst 0, 1) := by decide +kernel
theorem d_L_law_1121 : decode c_L_law 1121 = .ok (.ireturn, 1) := by decide +kernel
theorem d_L_law_1122 : decode c_L_law 1122 = .ok (.iload 5, 2) := by decide +kernel
theorem d_L_law_1124 : decode c_L_law 1124 = .ok (.ifCond .ne 22, 3) := by decide +kernel
theorem d_L_law_1127 : decode c_L_law 1127 = .ok (.aload_n 3, 1) := by decide +kernel
theorem d_L_law_1128 : decode c_L_law 1128 = .ok (.iconst 0, 1) := by decide +kernel
theorem d_L_law_1129 : decode c_L_law 1129 = .ok (.laload, 1) := by decide +kernel
theorem d_L_law_1130 : decode c_L_law 1130 = .ok (.iload 6, 2) := by decide +kernel
theorem d_L_law_1132 : decode c_L_law 1132 = .ok (.ifCond .eq 7, 3) := by decide +kernel
theorem d_L_law_1135 : decode c_L_law 1135 = .ok (.lconst 1, 1) := by decide +kernel
theorem d_L_law_1136 : decode c_L_law 1136 = .ok (.goto 4, 3) := by decide +kernel
theorem d_L_law_1139 : decode c_L_law 1139 = .ok (.lconst 0, 1) := by decide +kernel
theorem d_L_law_1140 : decode c_L_law 1140 = .ok (.lcmp, 1) := by decide +kernel
theorem d_L_law_1141 : decode c_L_law 1141 = .ok (.ifCond .eq 5, 3) := by decide +kernel
theorem d_L_law_1144 : decode c_L_law 1144 = .ok (.iconst 0, 1) := by decide +kernel
theorem d_L_law_1145 : decode c_L_law 1145 = .ok (.ireturn, 1) := by decide +kernel
theorem d_L_law_1146 : decode c_L_law 1146 = .ok (.goto 314, 3) := by decide +kernel
theorem d_L_law_1149 : decode c_L_law 1149 = .ok (.aload_n 1, 1) := by decide +kernel
theorem d_L_law_1150 : decode c_L_law 1150 = .ok (.aload_n 0, 1) := by decide +kernel
theorem d_L_law_1151 : decode c_L_law 1151 = .ok (.iload 4, 2) := by decide +kernel
theorem d_L_law_1153 : decode c_L_law 1153 = .ok (.iconst 1, 1) := by decide +kernel
theorem d_L_law_1154 : decode c_L_law 1154 = .ok (.iadd, 1) := by decide +kernel
theorem d_L_law_1155 : decode c_L_law 1155 = .ok (.iaload, 1) := by decide +kernel
theorem d_L_law_1156 : decode c_L_law 1156 = .ok (.aload_n 0, 1) := by decide +kernel
theorem d_L_law_1157 : decode c_L_law 1157 = .ok (.iload 4, 2) := by decide +kernel
theorem d_L_law_1159 : decode c_L_law 1159 = .ok (.iconst 2, 1) := by decide +kernel
theorem d_L_law_1160 : decode c_L_law 1160 = .ok (.iadd, 1) := by decide +kernel
theorem d_L_law_1161 : decode c_L_law 1161 = .ok (.iaload, 1) := by decide +kernel
theorem d_L_law_1162 : decode c_L_law 1162 = .ok (.ifCond .eq 7, 3) := by decide +kernel
theorem d_L_law_1165 : decode c_L_law 1165 = .ok (.iconst 1, 1) := by decide +kernel
theorem d_L_law_1166 : decode c_L_law 1166 = .ok (.goto 4, 3) := by decide +kernel
theorem d_L_law_1169 : decode c_L_law 1169 = .ok (.iconst 0, 1) := by decide +kernel
theorem d_L_law_1170 : decode c_L_law 1170 = .ok (.aload_n 3, 1) := by decide +kernel
theorem d_L_law_1171 : decode c_L_law 1171 = .ok (.invokestatic 128, 3) := by decide +kernel
theorem d_L_law_1174 : decode c_L_law 1174 = .ok (.istore 5, 2) := by decide +kernel
theorem d_L_law_1176 : decode c_L_law 1176 = .ok (.aload_n 2, 1) := by decide +kernel
theorem d_L_law_1177 : decode c_L_law 1177 = .ok (.aload_n 0, 1) := by decide +kernel
theorem d_L_law_1178 : decode c_L_law 1178 = .ok (.iload 4, 2) := by decide +kernel
theorem d_L_law_1180 : decode c_L_law 1180 = .ok (.iconst 1, 1) := by decide +kernel
theorem d_L_law_1181 : decode c_L_law 1181 = .ok (.iadd, 1) := by decide +kernel
theorem d_L_law_1182 : decode c_L_law 1182 = .ok (.iaload, 1) := by decide +kernel
theorem d_L_law_1183 : decode c_L_law 1183 = .ok (.aload_n 0, 1) := by decide +kernel
theorem d_L_law_1184 : decode c_L_law 1184 = .ok (.iload 4, 2) := by decide +kernel
theorem d_L_law_1186 : decode c_L_law 1186 = .ok (.iconst 2, 1) := by decide +kernel
theorem d_L_law_1187 : decode c_L_law 1187 = .ok (.iadd, 1) := by decide +kernel
theorem d_L_law_1188 : decode c_L_law 1188 = .ok (.iaload, 1) := by decide +kernel
theorem d_L_law_1189 : decode c_L_law 1189 = .ok (.ifCond .eq 7, 3) := by decide +kernel
theorem d_L_law_1192 : decode c_L_law 1192 = .ok (.iconst 1, 1) := by decide +kernel
theorem d_L_law_1193 : decode c_L_law 1193 = .ok (.goto 4, 3) := by decide +kernel
theorem d_L_law_1196 : decode c_L_law 1196 = .ok (.iconst 0, 1) := by decide +kernel
theorem d_L_law_1197 : decode c_L_law 1197 = .ok (.invokevirtual 131, 3) := by decide +kernel
theorem d_L_law_1200 : decode c_L_law 1200 = .ok (.istore 6, 2) := by decide +kernel
theorem d_L_law_1202 : decode c_L_law 1202 = .ok (.aload_n 2, 1) := by decide +kernel
theorem d_L_law_1203 : decode c_L_law 1203 = .ok (.invokevirtual 87, 3) := by decide +kernel
theorem d_L_law_1206 : decode c_L_law 1206 = .ok (.iload 5, 2) := by decide +kernel
theorem d_L_law_1208 : decode c_L_law 1208 = .ok (.if_icmp .eq 5, 3) := by decide +kernel
theorem d_L_law_1211 : decode c_L_law 1211 = .ok (.iconst 0, 1) := by decide +kernel
theorem d_L_law_1212 : decode c_L_law 1212 = .ok (.ireturn, 1) := by decide +kernel
theorem d_L_law_1213 : decode c_L_law 1213 = .ok (.iload 5, 2) := by decide +kernel
theorem d_L_law_1215 : decode c_L_law 1215 = .ok (.ifCond .ne 22, 3) := by decide +kernel
theorem d_L_law_1218 : decode c_L_law 1218 = .ok (.aload_n 3, 1) := by decide +kernel
theorem d_L_law_1219 : decode c_L_law 1219 = .ok (.iconst 0, 1) := by decide +kernel
theorem d_L_law_1220 : decode c_L_law 1220 = .ok (.laload, 1) := by decide +kernel
theorem d_L_law_1221 : decode c_L_law 1221 = .ok (.iload 6, 2) := by decide +kernel
theorem d_L_law_1223 : decode c_L_law 1223 = .ok (.ifCond .eq 7, 3) := by decide +kernel
theorem d_L_law_1226 : decode c_L_law 1226 = .ok (.lconst 1, 1) := by decide +kernel
theorem d_L_law_1227 : decode c_L_law 1227 = .ok (.goto 4, 3) := by decide +kernel
theorem d_L_law_1230 : decode c_L_law 1230 = .ok (.lconst 0, 1) := by decide +kernel
theorem d_L_law_1231 : decode c_L_law 1231 = .ok (.lcmp, 1) := by decide +kernel
theorem d_L_law_1232 : decode c_L_law 1232 = .ok (.ifCond .eq 5, 3) := by decide +kernel
theorem d_L_law_1235 : decode c_L_law 1235 = .ok (.iconst 0, 1) := by decide +kernel
theorem d_L_law_1236 : decode c_L_law 1236 = .ok (.ireturn, 1) := by decide +kernel
theorem d_L_law_1237 : decode c_L_law 1237 = .ok (.goto 223, 3) := by decide +kernel
