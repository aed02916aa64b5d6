theorem d_L_law_974 : decode c_L_law 974 = .ok (.lcmp, 1) := by decide +kernel
theorem d_L_law_975 : decode c_L_law 975 = .ok (.ifCond .eq 5, 3) := by decide +kernel
theorem d_L_law_978 : decode c_L_law 978 = .ok (.iconst 0, 1) := by decide +kernel
theorem d_L_law_979 : decode c_L_law 979 = .ok (.ireturn, 1) := by decide +kernel
theorem d_L_law_980 : decode c_L_law 980 = .ok (.goto 426, 3) := by decide +kernel
theorem d_L_law_983 : decode c_L_law 983 = .ok (.aload_n 1, 1) := by decide +kernel
theorem d_L_law_984 : decode c_L_law 984 = .ok (.aload_n 0, 1) := by decide +kernel
theorem d_L_law_985 : decode c_L_law 985 = .ok (.iload 4, 2) := by decide +kernel
theorem d_L_law_987 : decode c_L_law 987 = .ok (.iconst 1, 1) := by decide +kernel
theorem d_L_law_988 : decode c_L_law 988 = .ok (.iadd, 1) := by decide +kernel
theorem d_L_law_989 : decode c_L_law 989 = .ok (.iaload, 1) := by decide +kernel
theorem d_L_law_990 : decode c_L_law 990 = .ok (.i2l, 1) := by decide +kernel
theorem d_L_law_991 : decode c_L_law 991 = .ok (.bipush 32, 2) := by decide +kernel
theorem d_L_law_993 : decode c_L_law 993 = .ok (.lshl, 1) := by decide +kernel
theorem d_L_law_994 : decode c_L_law 994 = .ok (.aload_n 0, 1) := by decide +kernel
theorem d_L_law_995 : decode c_L_law 995 = .ok (.iload 4, 2) := by decide +kernel
theorem d_L_law_997 : decode c_L_law 997 = .ok (.iconst 2, 1) := by decide +kernel
theorem d_L_law_998 : decode c_L_law 998 = .ok (.iadd, 1) := by decide +kernel
theorem d_L_law_999 : decode c_L_law 999 = .ok (.iaload, 1) := by decide +kernel
theorem d_L_law_1000 : decode c_L_law 1000 = .ok (.i2l, 1) := by decide +kernel
theorem d_L_law_1001 : decode c_L_law 1001 = .ok (.ldc2_w 81, 3) := by decide +kernel
theorem d_L_law_1004 : decode c_L_law 1004 = .ok (.land, 1) := by decide +kernel
theorem d_L_law_1005 : decode c_L_law 1005 = .ok (.lor, 1) := by decide +kernel
theorem d_L_law_1006 : decode c_L_law 1006 = .ok (.aload_n 3, 1) := by decide +kernel
theorem d_L_law_1007 : decode c_L_law 1007 = .ok (.invokestatic 124, 3) := by decide +kernel
theorem d_L_law_1010 : decode c_L_law 1010 = .ok (.istore 5, 2) := by decide +kernel
theorem d_L_law_1012 : decode c_L_law 1012 = .ok (.aload_n 2, 1) := by decide +kernel
theorem d_L_law_1013 : decode c_L_law 1013 = .ok (.aload_n 0, 1) := by decide +kernel
theorem d_L_law_1014 : decode c_L_law 1014 = .ok (.iload 4, 2) := by decide +kernel
theorem d_L_law_1016 : decode c_L_law 1016 = .ok (.iconst 1, 1) := by decide +kernel
theorem d_L_law_1017 : decode c_L_law 1017 = .ok (.iadd, 1) := by decide +kernel
theorem d_L_law_1018 : decode c_L_law 1018 = .ok (.iaload, 1) := by decide +kernel
theorem d_L_law_1019 : decode c_L_law 1019 = .ok (.i2l, 1) := by decide +kernel
theorem d_L_law_1020 : decode c_L_law 1020 = .ok (.bipush 32, 2) := by decide +kernel
theorem d_L_law_1022 : decode c_L_law 1022 = .ok (.lshl, 1) := by decide +kernel
theorem d_L_law_1023 : decode c_L_law 1023 = .ok (.aload_n 0, 1) := by decide +kernel
theorem d_L_law_1024 : decode c_L_law 1024 = .ok (.iload 4, 2) := by decide +kernel
theorem d_L_law_1026 : decode c_L_law 1026 = .ok (.iconst 2, 1) := by decide +kernel
theorem d_L_law_1027 : decode c_L_law 1027 = .ok (.iadd, 1) := by decide +kernel
theorem d_L_law_1028 : decode c_L_law 1028 = .ok (.iaload, 1) := by decide +kernel
theorem d_L_law_1029 : decode c_L_law 1029 = .ok (.i2l, 1) := by decide +kernel
theorem d_L_law_1030 : decode c_L_law 1030 = .ok (.ldc2_w 81, 3) := by decide +kernel
theorem d_L_law_1033 : decode c_L_law 1033 = .ok (.land, 1) := by decide +kernel
theorem d_L_law_1034 : decode c_L_law 1034 = .ok (.lor, 1) := by decide +kernel
theorem d_L_law_1035 : decode c_L_law 1035 = .ok (.invokevirtual 127, 3) := by decide +kernel
theorem d_L_law_1038 : decode c_L_law 1038 = .ok (.istore 6, 2) := by decide +kernel
theorem d_L_law_1040 : decode c_L_law 1040 = .ok (.aload_n 2, 1) := by decide +kernel
theorem d_L_law_1041 : decode c_L_law 1041 = .ok (.invokevirtual 89, 3) := by decide +kernel
theorem d_L_law_1044 : decode c_L_law 1044 = .ok (.iload 5, 2) := by decide +kernel
theorem d_L_law_1046 : decode c_L_law 1046 = .ok (.if_icmp .eq 5, 3) := by decide +kernel
theorem d_L_law_1049 : decode c_L_law 1049 = .ok (.iconst 0, 1) := by decide +kernel
theorem d_L_law_1050 : decode c_L_law 1050 = .ok (.ireturn, 1) := by decide +kernel
theorem d_L_law_1051 : decode c_L_law 1051 = .ok (.iload 5, 2) := by decide +kernel
theorem d_L_law_1053 : decode c_L_law 1053 = .ok (.ifCond .ne 15, 3) := by decide +kernel
theorem d_L_law_1056 : decode c_L_law 1056 = .ok (.aload_n 3, 1) := by decide +kernel
theorem d_L_law_1057 : decode c_L_law 1057 = .ok (.iconst 0, 1) := by decide +kernel
theorem d_L_law_1058 : decode c_L_law 1058 = .ok (.laload, 1) := by decide +kernel
theorem d_L_law_1059 : decode c_L_law 1059 = .ok (.iload 6, 2) := by decide +kernel
theorem d_L_law_1061 : decode c_L_law 1061 = .ok (.i2l, 1) := by decide +kernel
theorem d_L_law_1062 : decode c_L_law 1062 = .ok (.lcmp, 1) := by decide +kernel
theorem d_L_law_1063 : decode c_L_law 1063 = .ok (.ifCond .eq 5, 3) := by decide +kernel
theorem d_L_law_1066 : decode c_L_law 1066 = .ok (.iconst 0, 1) := by decide +kernel
theorem d_L_law_1067 : decode c_L_law 1067 = .ok (.ireturn, 1) := by decide +kernel
theorem d_L_law_1068 : decode c_L_law 1068 = .ok (.goto 338, 3) := by decide +kernel
theorem d_L_law_1071 : decode c_L_law 1071 = .ok (.aload_n 1, 1) := by decide +kernel
theorem d_L_law_1072 : decode c_L_law 1072 = .ok (.aload_n 0, 1) := by decide +kernel
theorem d_L_law_1073 : decode c_L_law 1073 = .ok (.iload 4, 2) := by decide +kernel
theorem d_L_law_1075 : decode c_L_law 1075 = .ok (.iconst 1, 1) := by decide +kernel
theorem d_L_law_1076 : decode c_L_law 1076 = .ok (.iadd, 1) := by decide +kernel
theorem d_L_law_1077 : decode c_L_law 1077 = .ok (.iaload, 1) := by decide +kernel
theorem d_L_law_1078 : decode c_L_law 1078 = .ok (.i2l, 1) := by decide +kernel
theorem d_L_law_1079 : decode c_L_law 1079 = .ok (.bipush 32, 2) := by decide +kernel
theorem d_L_law_1081 : decode c_L_law 1081 = .ok (.lshl, 1) := by decide +kernel
theorem d_L_law_1082 : decode c_L_law 1082 = .ok (.aload_n 0, 1) := by decide +kernel
theorem d_L_law_1083 : decode c_L_law 1083 = .ok (.iload 4, 2) := by decide +kernel
theorem d_L_law_1085 : decode c_L_law 1085 = .ok (.iconst 2, 1) := by decide +kernel
theorem d_L_law_1086 : decode c_L_law 1086 = .ok (.iadd, 1) := by decide +kernel
theorem d_L_law_1087 : decode c_L_law 1087 = .ok (.iaload, 1) := by decide +kernel
theorem d_L_law_1088 : decode c_L_law 1088 = .ok (.i2l, 1) := by decide +kernel
theorem d_L_law_1089 : decode c_L_law 1089 = .ok (.ldc2_w 81, 3) := by decide +kernel
theorem d_L_law_1092 : decode c_L_law 1092 = .ok (.land, 1) := by decide +kernel
theorem d_L_law_1093 : decode c_L_law 1093 = .ok (.lor, 1) := by decide +kernel
theorem d_L_law_1094 : decode c_L_law 1094 = .ok (.aload_n 0, 1) := by decide +kernel
theorem d_L_law_1095 : decode c_L_law 1095 = .ok (.iload 4, 2) := by decide +kernel
theorem d_L_law_1097 : decode c_L_law 1097 = .ok (.iconst 3, 1) := by decide +kernel
theorem d_L_law_1098 : decode c_L_law 1098 = .ok (.iadd, 1) := by decide +kernel
theorem d_L_law_1099 : decode c_L_law 1099 = .ok (.iaload, 1) := by decide +kernel
theorem d_L_law_1100 : decode c_L_law 1100 = .ok (.aload_n 3, 1) := by decide +kernel
theorem d_L_law_1101 : decode c_L_law 1101 = .ok (.invokestatic 128, 3) := by decide +kernel
theorem d_L_law_1104 : decode c_L_law 1104 = .ok (.istore 5, 2) := by decide +kernel
theorem d_L_law_1106 : decode c_L_law 1106 = .ok (.aload_n 2, 1) := by decide +kernel
theorem d_L_law_1107 : decode c_L_law 1107 = .ok (.aload_n 0, 1) := by decide +kernel
theorem d_L_law_1108 : decode c_L_law 1108 = .ok (.iload 4, 2) := by decide +kernel
theorem d_L_law_1110 : decode c_L_law 1110 = .ok (.iconst 1, 1) := by decide +kernel
theorem d_L_law_1111 : decode c_L_law 1111 = .ok (.iadd, 1) := by decide +kernel
theorem d_L_law_1112 : decode c_L_law 1112 = .ok (.iaload, 1) := by decide +kernel
theorem d_L_law_1113 : decode c_L_law 1113 = .ok (.i2l, 1) := by decide +kernel
theorem d_L_law_1114 : decode c_L_law 1114 = .ok (.bipush 32, 2) := by decide +kernel
theorem d_L_law_1116 : decode c_L_law 1116 = .ok (.lshl, 1) := by decide +kernel
theorem d_L_law_1117 : decode c_L_law 1117 = .ok (.aload_n 0, 1) := by decide +kernel
theorem d_L_law_1118 : decode c_L_law 1118 = .ok (.iload 4, 2) := by decide +kernel
theorem d_L_law_1120 : decode c_L_law 1120 = .ok (.iconst 2, 1) := by decide +kernel
theorem d_L_law_1121 : decode c_L_law 1121 = .ok (.iadd, 1) := by decide +kernel
theorem d_L_law_1122 : decode c_L_law 1122 = .ok (.iaload, 1) := by decide +kernel
theorem d_L_law_1123 : decode c_L_law 1123 = .ok (.i2l, 1) := by decide +kernel
theorem d_L_law_1124 : decode c_L_law 1124 = .ok (.ldc2_w 81, 3) := by decide +kernel
theorem d_L_law_1127 : decode c_L_law 1127 = .ok (.land, 1) := by decide +kernel
theorem d_L_law_1128 : decode c_L_law 1128 = .ok (.lor, 1) := by decide +kernel
theorem d_L_law_1129 : decode c_L_law 1129 = .ok (.aload_n 0, 1) := by decide +kernel
theorem d_L_law_1130 : decode c_L_law 1130 = .ok (.iload 4, 2) := by decide +kernel
theorem d_L_law_1132 : decode c_L_law 1132 = .ok (.iconst 3, 1) := by decide +kernel
theorem d_L_law_1133 : decode c_L_law 1133 = .ok (.iadd, 1) := by decide +kernel
theorem d_L_law_1134 : decode c_L_law 1134 = .ok (.iaload, 1) := by decide +kernel
theorem d_L_law_1135 : decode c_L_law 1135 = .ok (.invokevirtual 131, 3) := by decide +kernel
theorem d_L_law_1138 : decode c_L_law 1138 = .ok (.lstore 6, 2) := by decide +kernel
theorem d_L_law_1140 : decode c_L_law 1140 = .ok (.aload_n 2, 1) := by decide +kernel
theorem d_L_law_1141 : decode c_L_law 1141 = .ok (.invokevirtual 89, 3) := by decide +kernel
theorem d_L_law_1144 : decode c_L_law 1144 = .ok (.iload 5, 2) := by decide +kernel
theorem d_L_law_1146 : decode c_L_law 1146 = .ok (.if_icmp .eq 5, 3) := by decide +kernel
theorem d_L_law_1149 : decode c_L_law 1149 = .ok (.iconst 0, 1) := by decide +kernel
theorem d_L_law_1150 : decode c_L_law 1150 = .ok (.ireturn, 1) := by decide +kernel
theorem d_L_law_1151 : decode c_L_law 1151 = .ok (.iload 5, 2) := by decide +kernel
theorem d_L_law_1153 : decode c_L_law 1153 = .ok (.ifCond .ne 14, 3) := by decide +kernel
theorem d_L_law_1156 : decode c_L_law 1156 = .ok (.aload_n 3, 1) := by decide +kernel
theorem d_L_law_1157 : decode c_L_law 1157 = .ok (.iconst 0, 1) := by decide +kernel
theorem d_L_law_1158 : decode c_L_law 1158 = .ok (.laload, 1) := by decide +kernel
theorem d_L_law_1159 : decode c_L_law 1159 = .ok (.lload 6, 2) := by decide +kernel
theorem d_L_law_1161 : decode c_L_law 1161 = .ok (.lcmp, 1) := by decide +kernel
theorem d_L_law_1162 : decode c_L_law 1162 = .ok (.ifCond .eq 5, 3) := by decide +kernel
theorem d_L_law_1165 : decode c_L_law 1165 = .ok (.iconst 0, 1) := by decide +kernel
theorem d_L_law_1166 : decode c_L_law 1166 = .ok (.ireturn, 1) := by decide +kernel
theorem d_L_law_1167 : decode c_L_law 1167 = .ok (.goto 239, 3) := by decide +kernel
theorem d_L_law_1170 : decode c_L_law 1170 = .ok (.aload_n 1, 1) := by decide +kernel
theorem d_L_law_1171 : decode c_L_law 1171 = .ok (.aload_n 0, 1) := by decide +kernel
theorem d_L_law_1172 : decode c_L_law 1172 = .ok (.iload 4, 2) := by decide +kernel
theorem d_L_law_1174 : decode c_L_law 1174 = .ok (.iconst 1, 1) := by decide +kernel
theorem d_L_law_1175 : decode c_L_law 1175 = .ok (.iadd, 1) := by decide +kernel
theorem d_L_law_1176 : decode c_L_law 1176 = .ok (.iaload, 1) := by decide +kernel
theorem d_L_law_1177 : decode c_L_law 1177 = .ok (.aload_n 3, 1) := by decide +kernel
theorem d_L_law_1178 : decode c_L_law 1178 = .ok (.invokestatic 132, 3) := by decide +kernel
theorem d_L_law_1181 : decode c_L_law 1181 = .ok (.istore 5, 2) := by decide +kernel
theorem d_L_law_1183 : decode c_L_law 1183 = .ok (.aload_n 2, 1) := by decide +kernel
theorem d_L_law_1184 : decode c_L_law 1184 = .ok (.aload_n 0, 1) := by decide +kernel
theorem d_L_law_1185 : decode c_L_law 1185 = .ok (.iload 4, 2) := by decide +kernel
theorem d_L_law_1187 : decode c_L_law 1187 = .ok (.iconst 1, 1) := by decide +kernel
theorem d_L_law_1188 : decode c_L_law 1188 = .ok (.iadd, 1) := by decide +kernel
theorem d_L_law_1189 : decode c_L_law 1189 = .ok (.iaload, 1) := by decide +kernel
theorem d_L_law_1190 : decode c_L_law 1190 = .ok (.invokevirtual 135, 3) := by decide +kernel
theorem d_L_law_1193 : decode c_L_law 1193 = .ok (.istore 6, 2) := by decide +kernel
theorem d_L_law_1195 : decode c_L_law 1195 = .ok (.aload_n 2, 1) := by decide +kernel
theorem d_L_law_1196 : decode c_L_law 1196 = .ok (.invokevirtual 89, 3) := by decide +kernel
theorem d_L_law_1199 : decode c_L_law 1199 = .ok (.iload 5, 2) := by decide +kernel
theorem d_L_law_1201 : decode c_L_law 1201 = .ok (.if_icmp .eq 5, 3) := by decide +kernel
theorem d_L_law_1204 : decode c_L_law 1204 = .ok (.iconst 0, 1) := by decide +kernel
theorem d_L_law_1205 : decode c_L_law 1205 = .ok (.ireturn, 1) := by decide +kernel
theorem d_L_law_1206 : decode c_L_law 1206 = .ok (.iload 5, 2) := by decide +kernel
theorem d_L_law_1208 : decode c_L_law 1208 = .ok (.ifCond .ne 15, 3) := by decide +kernel
theorem d_L_law_1211 : decode c_L_law 1211 = .ok (.aload_n 3, 1) := by decide +kernel
theorem d_L_law_1212 : decode c_L_law 1212 = .ok (.iconst 0, 1) := by decide +kernel
theorem d_L_law_1213 : decode c_L_law 1213 = .ok (.laload, 1) := by decide +kernel
theorem d_L_law_1214 : decode c_L_law 1214 = .ok (.iload 6, 2) := by decide +kernel
theorem d_L_law_1216 : decode c_L_law 1216 = .ok (.i2l, 1) := by decide +kernel
theorem d_L_law_1217 : decode c_L_law 1217 = .ok (.lcmp, 1) := by decide +kernel
theorem d_L_law_1218 : decode c_L_law 1218 = .ok (.ifCond .eq 5, 3) := by decide +kernel
theorem d_L_law_1221 : decode c_L_law 1221 = .ok (.iconst 0, 1) := by decide +kernel
theorem d_L_law_1222 : decode c_L_law 1222 = .ok (.ireturn, 1) := by decide +kernel
theorem d_L_law_1223 : decode c_L_law 1223 = .ok (.goto 183, 3) := by decide +kernel
theorem d_L_law_1226 : decode c_L_law 1226 = .ok (.aload_n 1, 1) := by decide +kernel
theorem d_L_law_1227 : decode c_L_law 1227 = .ok (.aload_n 3, 1) := by decide +kernel
theorem d_L_law_1228 : decode c_L_law 1228 = .ok (.invokestatic 136, 3) := by decide +kernel
theorem d_L_law_1231 : decode c_L_law 1231 = .ok (.istore 5, 2) := by decide +kernel
theorem d_L_law_1233 : decode c_L_law 1233 = .ok (.aload_n 2, 1) := by decide +kernel
theorem d_L_law_1234 : decode c_L_law 1234 = .ok (.invokevirtual 139, 3) := by decide +kernel
theorem d_L_law_1237 : decode c_L_law 1237 = .ok (.istore 6, 2) := by decide +kernel
theorem d_L_law_1239 : decode c_L_law 1239 = .ok (.aload_n 2, 1) := by decide +kernel
theorem d_L_law_1240 : decode c_L_law 1240 = .ok (.invokevirtual 89, 3) := by decide +kernel
theorem d_L_law_1243 : decode c_L_law 1243 = .ok (.iload 5, 2) := by decide +kernel
theorem d_L_law_1245 : decode c_L_law 1245 = .ok (.if_icmp .eq 5, 3) := by decide +kernel
theorem d_L_law_1248 : decode c_L_law 1248 = .ok (.iconst 0, 1) := by decide +kernel
theorem d_L_law_1249 : decode c_L_law 1249 = .ok (.ireturn, 1) := by decide +kernel
theorem d_L_law_1250 : decode c_L_law 1250 = .ok (.iload 5, 2) := by decide +kernel
theorem d_L_law_1252 : decode c_L_law 1252 = .ok (.ifCond .ne 15, 3) := by decide +kernel
theorem d_L_law_1255 : decode c_L_law 1255 = .ok (.aload_n 3, 1) := by decide +kernel
theorem d_L_law_1256 : decode c_L_law 1256 = .ok (.iconst 0, 1) := by decide +kernel
theorem d_L_law_1257 : decode c_L_law 1257 = .ok (.laload, 1) := by decide +kernel
theorem d_L_law_1258 : decode c_L_law 1258 = .ok (.iload 6, 2) := by decide +kernel
theorem d_L_law_1260 : decode c_L_law 1260 = .ok (.i2l, 1) := by decide +kernel
theorem d_L_law_1261 : decode c_L_law 1261 = .ok (.lcmp, 1) := by decide +kernel
theorem d_L_law_1262 : decode c_L_law 1262 = .ok (.ifCond .eq 5, 3) := by decide +kernel
theorem d_L_law_1265 : decode c_L_law 1265 = .ok (.iconst 0, 1) := by decide +kernel
theorem d_L_law_1266 : decode c_L_law 1266 = .ok (.ireturn, 1) := by decide +kernel
theorem d_L_law_1267 : decode c_L_law 1267 = .ok (.goto 139, 3) := by decide +kernel
theorem d_L_law_1270 : decode c_L_law 1270 = .ok (.aload_n 1, 1) := by decide +kernel
theorem d_L_law_1271 : decode c_L_law 1271 = .ok (.aload_n 0, 1) := by decide +kernel
theorem d_L_law_1272 : decode c_L_law 1272 = .ok (.iload 4, 2) := by decide +kernel
theorem d_L_law_1274 : decode c_L_law 1274 = .ok (.iconst 1, 1) := by decide +kernel
theorem d_L_law_1275 : decode c_L_law 1275 = .ok (.iadd, 1) := by decide +kernel
theorem d_L_law_1276 : decode c_L_law 1276 = .ok (.iaload, 1) := by decide +kernel
theorem d_L_law_1277 : decode c_L_law 1277 = .ok (.aload_n 3, 1) := by decide +kernel
theorem d_L_law_1278 : decode c_L_law 1278 = .ok (.invokestatic 140, 3) := by decide +kernel
