theorem dL_law_987 : decode cL_law 987 = .ok (.aload_n 2, 1) := by decide +kernel
theorem dL_law_988 : decode cL_law 988 = .ok (.invokevirtual 115, 3) := by decide +kernel
theorem dL_law_991 : decode cL_law 991 = .ok (.iload 5, 2) := by decide +kernel
theorem dL_law_993 : decode cL_law 993 = .ok (.if_icmp .eq 5, 3) := by decide +kernel
theorem dL_law_996 : decode cL_law 996 = .ok (.iconst 0, 1) := by decide +kernel
theorem dL_law_997 : decode cL_law 997 = .ok (.ireturn, 1) := by decide +kernel
theorem dL_law_998 : decode cL_law 998 = .ok (.iload 5, 2) := by decide +kernel
theorem dL_law_1000 : decode cL_law 1000 = .ok (.ifCond .ne 15, 3) := by decide +kernel
theorem dL_law_1003 : decode cL_law 1003 = .ok (.aload_n 3, 1) := by decide +kernel
theorem dL_law_1004 : decode cL_law 1004 = .ok (.iconst 0, 1) := by decide +kernel
theorem dL_law_1005 : decode cL_law 1005 = .ok (.laload, 1) := by decide +kernel
theorem dL_law_1006 : decode cL_law 1006 = .ok (.iload 6, 2) := by decide +kernel
theorem dL_law_1008 : decode cL_law 1008 = .ok (.i2l, 1) := by decide +kernel
theorem dL_law_1009 : decode cL_law 1009 = .ok (.lcmp, 1) := by decide +kernel
theorem dL_law_1010 : decode cL_law 1010 = .ok (.ifCond .eq 5, 3) := by decide +kernel
theorem dL_law_1013 : decode cL_law 1013 = .ok (.iconst 0, 1) := by decide +kernel
theorem dL_law_1014 : decode cL_law 1014 = .ok (.ireturn, 1) := by decide +kernel
theorem dL_law_1015 : decode cL_law 1015 = .ok (.goto 1019, 3) := by decide +kernel
theorem dL_law_1018 : decode cL_law 1018 = .ok (.aload_n 1, 1) := by decide +kernel
theorem dL_law_1019 : decode cL_law 1019 = .ok (.aload_n 0, 1) := by decide +kernel
theorem dL_law_1020 : decode cL_law 1020 = .ok (.iload 4, 2) := by decide +kernel
theorem dL_law_1022 : decode cL_law 1022 = .ok (.iconst 1, 1) := by decide +kernel
theorem dL_law_1023 : decode cL_law 1023 = .ok (.iadd, 1) := by decide +kernel
theorem dL_law_1024 : decode cL_law 1024 = .ok (.iaload, 1) := by decide +kernel
theorem dL_law_1025 : decode cL_law 1025 = .ok (.aload_n 0, 1) := by decide +kernel
theorem dL_law_1026 : decode cL_law 1026 = .ok (.iload 4, 2) := by decide +kernel
theorem dL_law_1028 : decode cL_law 1028 = .ok (.iconst 2, 1) := by decide +kernel
theorem dL_law_1029 : decode cL_law 1029 = .ok (.iadd, 1) := by decide +kernel
theorem dL_law_1030 : decode cL_law 1030 = .ok (.iaload, 1) := by decide +kernel
theorem dL_law_1031 : decode cL_law 1031 = .ok (.aload_n 3, 1) := by decide +kernel
theorem dL_law_1032 : decode cL_law 1032 = .ok (.invokestatic 158, 3) := by decide +kernel
theorem dL_law_1035 : decode cL_law 1035 = .ok (.istore 5, 2) := by decide +kernel
theorem dL_law_1037 : decode cL_law 1037 = .ok (.aload_n 2, 1) := by decide +kernel
theorem dL_law_1038 : decode cL_law 1038 = .ok (.aload_n 0, 1) := by decide +kernel
theorem dL_law_1039 : decode cL_law 1039 = .ok (.iload 4, 2) := by decide +kernel
theorem dL_law_1041 : decode cL_law 1041 = .ok (.iconst 1, 1) := by decide +kernel
theorem dL_law_1042 : decode cL_law 1042 = .ok (.iadd, 1) := by decide +kernel
theorem dL_law_1043 : decode cL_law 1043 = .ok (.iaload, 1) := by decide +kernel
theorem dL_law_1044 : decode cL_law 1044 = .ok (.aload_n 0, 1) := by decide +kernel
theorem dL_law_1045 : decode cL_law 1045 = .ok (.iload 4, 2) := by decide +kernel
theorem dL_law_1047 : decode cL_law 1047 = .ok (.iconst 2, 1) := by decide +kernel
theorem dL_law_1048 : decode cL_law 1048 = .ok (.iadd, 1) := by decide +kernel
theorem dL_law_1049 : decode cL_law 1049 = .ok (.iaload, 1) := by decide +kernel
theorem dL_law_1050 : decode cL_law 1050 = .ok (.invokevirtual 160, 3) := by decide +kernel
theorem dL_law_1053 : decode cL_law 1053 = .ok (.istore 6, 2) := by decide +kernel
theorem dL_law_1055 : decode cL_law 1055 = .ok (.aload_n 2, 1) := by decide +kernel
theorem dL_law_1056 : decode cL_law 1056 = .ok (.invokevirtual 115, 3) := by decide +kernel
theorem dL_law_1059 : decode cL_law 1059 = .ok (.iload 5, 2) := by decide +kernel
theorem dL_law_1061 : decode cL_law 1061 = .ok (.if_icmp .eq 5, 3) := by decide +kernel
theorem dL_law_1064 : decode cL_law 1064 = .ok (.iconst 0, 1) := by decide +kernel
theorem dL_law_1065 : decode cL_law 1065 = .ok (.ireturn, 1) := by decide +kernel
theorem dL_law_1066 : decode cL_law 1066 = .ok (.iload 5, 2) := by decide +kernel
theorem dL_law_1068 : decode cL_law 1068 = .ok (.ifCond .ne 15, 3) := by decide +kernel
theorem dL_law_1071 : decode cL_law 1071 = .ok (.aload_n 3, 1) := by decide +kernel
theorem dL_law_1072 : decode cL_law 1072 = .ok (.iconst 0, 1) := by decide +kernel
theorem dL_law_1073 : decode cL_law 1073 = .ok (.laload, 1) := by decide +kernel
theorem dL_law_1074 : decode cL_law 1074 = .ok (.iload 6, 2) := by decide +kernel
theorem dL_law_1076 : decode cL_law 1076 = .ok (.i2l, 1) := by decide +kernel
theorem dL_law_1077 : decode cL_law 1077 = .ok (.lcmp, 1) := by decide +kernel
theorem dL_law_1078 : decode cL_law 1078 = .ok (.ifCond .eq 5, 3) := by decide +kernel
theorem dL_law_1081 : decode cL_law 1081 = .ok (.iconst 0, 1) := by decide +kernel
theorem dL_law_1082 : decode cL_law 1082 = .ok (.ireturn, 1) := by decide +kernel
theorem dL_law_1083 : decode cL_law 1083 = .ok (.goto 951, 3) := by decide +kernel
theorem dL_law_1086 : decode cL_law 1086 = .ok (.aload_n 1, 1) := by decide +kernel
theorem dL_law_1087 : decode cL_law 1087 = .ok (.aload_n 0, 1) := by decide +kernel
theorem dL_law_1088 : decode cL_law 1088 = .ok (.iload 4, 2) := by decide +kernel
theorem dL_law_1090 : decode cL_law 1090 = .ok (.iconst 1, 1) := by decide +kernel
theorem dL_law_1091 : decode cL_law 1091 = .ok (.iadd, 1) := by decide +kernel
theorem dL_law_1092 : decode cL_law 1092 = .ok (.iaload, 1) := by decide +kernel
theorem dL_law_1093 : decode cL_law 1093 = .ok (.aload_n 0, 1) := by decide +kernel
theorem dL_law_1094 : decode cL_law 1094 = .ok (.iload 4, 2) := by decide +kernel
theorem dL_law_1096 : decode cL_law 1096 = .ok (.iconst 2, 1) := by decide +kernel
theorem dL_law_1097 : decode cL_law 1097 = .ok (.iadd, 1) := by decide +kernel
theorem dL_law_1098 : decode cL_law 1098 = .ok (.iaload, 1) := by decide +kernel
theorem dL_law_1099 : decode cL_law 1099 = .ok (.aload_n 3, 1) := by decide +kernel
theorem dL_law_1100 : decode cL_law 1100 = .ok (.invokestatic 161, 3) := by decide +kernel
theorem dL_law_1103 : decode cL_law 1103 = .ok (.istore 5, 2) := by decide +kernel
theorem dL_law_1105 : decode cL_law 1105 = .ok (.aload_n 2, 1) := by decide +kernel
theorem dL_law_1106 : decode cL_law 1106 = .ok (.aload_n 0, 1) := by decide +kernel
theorem dL_law_1107 : decode cL_law 1107 = .ok (.iload 4, 2) := by decide +kernel
theorem dL_law_1109 : decode cL_law 1109 = .ok (.iconst 1, 1) := by decide +kernel
theorem dL_law_1110 : decode cL_law 1110 = .ok (.iadd, 1) := by decide +kernel
theorem dL_law_1111 : decode cL_law 1111 = .ok (.iaload, 1) := by decide +kernel
theorem dL_law_1112 : decode cL_law 1112 = .ok (.aload_n 0, 1) := by decide +kernel
theorem dL_law_1113 : decode cL_law 1113 = .ok (.iload 4, 2) := by decide +kernel
theorem dL_law_1115 : decode cL_law 1115 = .ok (.iconst 2, 1) := by decide +kernel
theorem dL_law_1116 : decode cL_law 1116 = .ok (.iadd, 1) := by decide +kernel
theorem dL_law_1117 : decode cL_law 1117 = .ok (.iaload, 1) := by decide +kernel
theorem dL_law_1118 : decode cL_law 1118 = .ok (.invokevirtual 163, 3) := by decide +kernel
theorem dL_law_1121 : decode cL_law 1121 = .ok (.istore 6, 2) := by decide +kernel
theorem dL_law_1123 : decode cL_law 1123 = .ok (.aload_n 2, 1) := by decide +kernel
theorem dL_law_1124 : decode cL_law 1124 = .ok (.invokevirtual 115, 3) := by decide +kernel
theorem dL_law_1127 : decode cL_law 1127 = .ok (.iload 5, 2) := by decide +kernel
theorem dL_law_1129 : decode cL_law 1129 = .ok (.if_icmp .eq 5, 3) := by decide +kernel
theorem dL_law_1132 : decode cL_law 1132 = .ok (.iconst 0, 1) := by decide +kernel
theorem dL_law_1133 : decode cL_law 1133 = .ok (.ireturn, 1) := by decide +kernel
theorem dL_law_1134 : decode cL_law 1134 = .ok (.iload 5, 2) := by decide +kernel
theorem dL_law_1136 : decode cL_law 1136 = .ok (.ifCond .ne 15, 3) := by decide +kernel
theorem dL_law_1139 : decode cL_law 1139 = .ok (.aload_n 3, 1) := by decide +kernel
theorem dL_law_1140 : decode cL_law 1140 = .ok (.iconst 0, 1) := by decide +kernel
theorem dL_law_1141 : decode cL_law 1141 = .ok (.laload, 1) := by decide +kernel
theorem dL_law_1142 : decode cL_law 1142 = .ok (.iload 6, 2) := by decide +kernel
theorem dL_law_1144 : decode cL_law 1144 = .ok (.i2l, 1) := by decide +kernel
theorem dL_law_1145 : decode cL_law 1145 = .ok (.lcmp, 1) := by decide +kernel
theorem dL_law_1146 : decode cL_law 1146 = .ok (.ifCond .eq 5, 3) := by decide +kernel
theorem dL_law_1149 : decode cL_law 1149 = .ok (.iconst 0, 1) := by decide +kernel
theorem dL_law_1150 : decode cL_law 1150 = .ok (.ireturn, 1) := by decide +kernel
theorem dL_law_1151 : decode cL_law 1151 = .ok (.goto 883, 3) := by decide +kernel
theorem dL_law_1154 : decode cL_law 1154 = .ok (.aload_n 1, 1) := by decide +kernel
theorem dL_law_1155 : decode cL_law 1155 = .ok (.aload_n 0, 1) := by decide +kernel
theorem dL_law_1156 : decode cL_law 1156 = .ok (.iload 4, 2) := by decide +kernel
theorem dL_law_1158 : decode cL_law 1158 = .ok (.iconst 1, 1) := by decide +kernel
theorem dL_law_1159 : decode cL_law 1159 = .ok (.iadd, 1) := by decide +kernel
theorem dL_law_1160 : decode cL_law 1160 = .ok (.iaload, 1) := by decide +kernel
theorem dL_law_1161 : decode cL_law 1161 = .ok (.aload_n 0, 1) := by decide +kernel
theorem dL_law_1162 : decode cL_law 1162 = .ok (.iload 4, 2) := by decide +kernel
theorem dL_law_1164 : decode cL_law 1164 = .ok (.iconst 2, 1) := by decide +kernel
theorem dL_law_1165 : decode cL_law 1165 = .ok (.iadd, 1) := by decide +kernel
theorem dL_law_1166 : decode cL_law 1166 = .ok (.iaload, 1) := by decide +kernel
theorem dL_law_1167 : decode cL_law 1167 = .ok (.aload_n 3, 1) := by decide +kernel
theorem dL_law_1168 : decode cL_law 1168 = .ok (.invokestatic 164, 3) := by decide +kernel
theorem dL_law_1171 : decode cL_law 1171 = .ok (.istore 5, 2) := by decide +kernel
theorem dL_law_1173 : decode cL_law 1173 = .ok (.aload_n 2, 1) := by decide +kernel
theorem dL_law_1174 : decode cL_law 1174 = .ok (.aload_n 0, 1) := by decide +kernel
theorem dL_law_1175 : decode cL_law 1175 = .ok (.iload 4, 2) := by decide +kernel
theorem dL_law_1177 : decode cL_law 1177 = .ok (.iconst 1, 1) := by decide +kernel
theorem dL_law_1178 : decode cL_law 1178 = .ok (.iadd, 1) := by decide +kernel
theorem dL_law_1179 : decode cL_law 1179 = .ok (.iaload, 1) := by decide +kernel
theorem dL_law_1180 : decode cL_law 1180 = .ok (.aload_n 0, 1) := by decide +kernel
theorem dL_law_1181 : decode cL_law 1181 = .ok (.iload 4, 2) := by decide +kernel
theorem dL_law_1183 : decode cL_law 1183 = .ok (.iconst 2, 1) := by decide +kernel
theorem dL_law_1184 : decode cL_law 1184 = .ok (.iadd, 1) := by decide +kernel
theorem dL_law_1185 : decode cL_law 1185 = .ok (.iaload, 1) := by decide +kernel
theorem dL_law_1186 : decode cL_law 1186 = .ok (.invokevirtual 166, 3) := by decide +kernel
theorem dL_law_1189 : decode cL_law 1189 = .ok (.istore 6, 2) := by decide +kernel
theorem dL_law_1191 : decode cL_law 1191 = .ok (.aload_n 2, 1) := by decide +kernel
theorem dL_law_1192 : decode cL_law 1192 = .ok (.invokevirtual 115, 3) := by decide +kernel
theorem dL_law_1195 : decode cL_law 1195 = .ok (.iload 5, 2) := by decide +kernel
theorem dL_law_1197 : decode cL_law 1197 = .ok (.if_icmp .eq 5, 3) := by decide +kernel
theorem dL_law_1200 : decode cL_law 1200 = .ok (.iconst 0, 1) := by decide +kernel
theorem dL_law_1201 : decode cL_law 1201 = .ok (.ireturn, 1) := by decide +kernel
theorem dL_law_1202 : decode cL_law 1202 = .ok (.iload 5, 2) := by decide +kernel
theorem dL_law_1204 : decode cL_law 1204 = .ok (.ifCond .ne 15, 3) := by decide +kernel
theorem dL_law_1207 : decode cL_law 1207 = .ok (.aload_n 3, 1) := by decide +kernel
theorem dL_law_1208 : decode cL_law 1208 = .ok (.iconst 0, 1) := by decide +kernel
theorem dL_law_1209 : decode cL_law 1209 = .ok (.laload, 1) := by decide +kernel
theorem dL_law_1210 : decode cL_law 1210 = .ok (.iload 6, 2) := by decide +kernel
theorem dL_law_1212 : decode cL_law 1212 = .ok (.i2l, 1) := by decide +kernel
theorem dL_law_1213 : decode cL_law 1213 = .ok (.lcmp, 1) := by decide +kernel
theorem dL_law_1214 : decode cL_law 1214 = .ok (.ifCond .eq 5, 3) := by decide +kernel
theorem dL_law_1217 : decode cL_law 1217 = .ok (.iconst 0, 1) := by decide +kernel
theorem dL_law_1218 : decode cL_law 1218 = .ok (.ireturn, 1) := by decide +kernel
theorem dL_law_1219 : decode cL_law 1219 = .ok (.goto 815, 3) := by decide +kernel
theorem dL_law_1222 : decode cL_law 1222 = .ok (.aload_n 1, 1) := by decide +kernel
theorem dL_law_1223 : decode cL_law 1223 = .ok (.aload_n 0, 1) := by decide +kernel
theorem dL_law_1224 : decode cL_law 1224 = .ok (.iload 4, 2) := by decide +kernel
theorem dL_law_1226 : decode cL_law 1226 = .ok (.iconst 1, 1) := by decide +kernel
theorem dL_law_1227 : decode cL_law 1227 = .ok (.iadd, 1) := by decide +kernel
theorem dL_law_1228 : decode cL_law 1228 = .ok (.iaload, 1) := by decide +kernel
theorem dL_law_1229 : decode cL_law 1229 = .ok (.aload_n 0, 1) := by decide +kernel
theorem dL_law_1230 : decode cL_law 1230 = .ok (.iload 4, 2) := by decide +kernel
theorem dL_law_1232 : decode cL_law 1232 = .ok (.iconst 2, 1) := by decide +kernel
theorem dL_law_1233 : decode cL_law 1233 = .ok (.iadd, 1) := by decide +kernel
theorem dL_law_1234 : decode cL_law 1234 = .ok (.iaload, 1) := by decide +kernel
theorem dL_law_1235 : decode cL_law 1235 = .ok (.aload_n 3, 1) := by decide +kernel
theorem dL_law_1236 : decode cL_law 1236 = .ok (.invokestatic 167, 3) := by decide +kernel
theorem dL_law_1239 : decode cL_law 1239 = .ok (.istore 5, 2) := by decide +kernel
theorem dL_law_1241 : decode cL_law 1241 = .ok (.aload_n 2, 1) := by decide +kernel
theorem dL_law_1242 : decode cL_law 1242 = .ok (.aload_n 0, 1) := by decide +kernel
theorem dL_law_1243 : decode cL_law 1243 = .ok (.iload 4, 2) := by decide +kernel
theorem dL_law_1245 : decode cL_law 1245 = .ok (.iconst 1, 1) := by decide +kernel
theorem dL_law_1246 : decode cL_law 1246 = .ok (.iadd, 1) := by decide +kernel
theorem dL_law_1247 : decode cL_law 1247 = .ok (.iaload, 1) := by decide +kernel
theorem dL_law_1248 : decode cL_law 1248 = .ok (.aload_n 0, 1) := by decide +kernel
theorem dL_law_1249 : decode cL_law 1249 = .ok (.iload 4, 2) := by decide +kernel
theorem dL_law_1251 : decode cL_law 1251 = .ok (.iconst 2, 1) := by decide +kernel
theorem dL_law_1252 : decode cL_law 1252 = .ok (.iadd, 1) := by decide +kernel
theorem dL_law_1253 : decode cL_law 1253 = .ok (.iaload, 1) := by decide +kernel
theorem dL_law_1254 : decode cL_law 1254 = .ok (.invokevirtual 169, 3) := by decide +kernel
theorem dL_law_1257 : decode cL_law 1257 = .ok (.istore 6, 2) := by decide +kernel
theorem dL_law_1259 : decode cL_law 1259 = .ok (.aload_n 2, 1) := by decide +kernel
theorem dL_law_1260 : decode cL_law 1260 = .ok (.invokevirtual 115, 3) := by decide +kernel
theorem dL_law_1263 : decode cL_law 1263 = .ok (.iload 5, 2) := by decide +kernel
theorem dL_law_1265 : decode cL_law 1265 = .ok (.if_icmp .eq 5, 3) := by decide +kernel
theorem dL_law_1268 : decode cL_law 1268 = .ok (.iconst 0, 1) := by decide +kernel
theorem dL_law_1269 : decode cL_law 1269 = .ok (.ireturn, 1) := by decide +kernel
theorem dL_law_1270 : decode cL_law 1270 = .ok (.iload 5, 2) := by decide +kernel
theorem dL_law_1272 : decode cL_law 1272 = .ok (.ifCond .ne 15, 3) := by decide +kernel
theorem dL_law_1275 : decode cL_law 1275 = .ok (.aload_n 3, 1) := by decide +kernel
theorem dL_law_1276 : decode cL_law 1276 = .ok (.iconst 0, 1) := by decide +kernel
theorem dL_law_1277 : decode cL_law 1277 = .ok (.laload, 1) := by decide +kernel
theorem dL_law_1278 : decode cL_law 1278 = .ok (.iload 6, 2) := by decide +kernel
theorem dL_law_1280 : decode cL_law 1280 = .ok (.i2l, 1) := by decide +kernel
theorem dL_law_1281 : decode cL_law 1281 = .ok (.lcmp, 1) := by decide +kernel
theorem dL_law_1282 : decode cL_law 1282 = .ok (.ifCond .eq 5, 3) := by decide +kernel
theorem dL_law_1285 : decode cL_law 1285 = .ok (.iconst 0, 1) := by decide +kernel
theorem dL_law_1286 : decode cL_law 1286 = .ok (.ireturn, 1) := by decide +kernel
theorem dL_law_1287 : decode cL_law 1287 = .ok (.goto 747, 3) := by decide +kernel
theorem dL_law_1290 : decode cL_law 1290 = .ok (.aload_n 1, 1) := by decide +kernel
theorem dL_law_1291 : decode cL_law 1291 = .ok (.aload_n 0, 1) := by decide +kernel
theorem dL_law_1292 : decode cL_law 1292 = .ok (.iload 4, 2) := by decide +kernel
theorem dL_law_1294 : decode cL_law 1294 = .ok (.iconst 1, 1) := by decide +kernel
theorem dL_law_1295 : decode cL_law 1295 = .ok (.iadd, 1) := by decide +kernel
theorem dL_law_1296 : decode cL_law 1296 = .ok (.iaload, 1) := by decide +kernel
theorem dL_law_1297 : decode cL_law 1297 = .ok (.aload_n 0, 1) := by decide +kernel
theorem dL_law_1298 : decode cL_law 1298 = .ok (.iload 4, 2) := by decide +kernel
theorem dL_law_1300 : decode cL_law 1300 = .ok (.iconst 2, 1) := by decide +kernel
theorem dL_law_1301 : decode cL_law 1301 = .ok (.iadd, 1) := by decide +kernel
theorem dL_law_1302 : decode cL_law 1302 = .ok (.iaload, 1) := by decide +kernel
theorem dL_law_1303 : decode cL_law 1303 = .ok (.invokestatic 170, 3) := by decide +kernel
theorem dL_law_1306 : decode cL_law 1306 = .ok (.istore 5, 2) := by decide +kernel
theorem dL_law_1308 : decode cL_law 1308 = .ok (.aload_n 2, 1) := by decide +kernel
theorem dL_law_1309 : decode cL_law 1309 = .ok (.aload_n 0, 1) := by decide +kernel
theorem dL_law_1310 : decode cL_law 1310 = .ok (.iload 4, 2) := by decide +kernel
theorem dL_law_1312 : decode cL_law 1312 = .ok (.iconst 1, 1) := by decide +kernel
theorem dL_law_1313 : decode cL_law 1313 = .ok (.iadd, 1) := by decide +kernel
theorem dL_law_1314 : decode cL_law 1314 = .ok (.iaload, 1) := by decide +kernel
theorem dL_law_1315 : decode cL_law 1315 = .ok (.aload_n 0, 1) := by decide +kernel
theorem dL_law_1316 : decode cL_law 1316 = .ok (.iload 4, 2) := by decide +kernel
theorem dL_law_1318 : decode cL_law 1318 = .ok (.iconst 2, 1) := by decide +kernel
theorem dL_law_1319 : decode cL_law 1319 = .ok (.iadd, 1) := by decide +kernel
theorem dL_law_1320 : decode cL_law 1320 = .ok (.iaload, 1) := by decide +kernel
theorem dL_law_1321 : decode cL_law 1321 = .ok (.invokevirtual 173, 3) := by decide +kernel
theorem dL_law_1324 : decode cL_law 1324 = .ok (.aload_n 2, 1) := by decide +kernel
theorem dL_law_1325 : decode cL_law 1325 = .ok (.invokevirtual 115, 3) := by decide +kernel
theorem dL_law_1328 : decode cL_law 1328 = .ok (.iload 5, 2) := by decide +kernel
theorem dL_law_1330 : decode cL_law 1330 = .ok (.if_icmp .eq 5, 3) := by decide +kernel
theorem dL_law_1333 : decode cL_law 1333 = .ok (.iconst 0, 1) := by decide +kernel
theorem dL_law_1334 : decode cL_law 1334 = .ok (.ireturn, 1) := by decide +kernel
theorem dL_law_1335 : decode cL_law 1335 = .ok (.goto 699, 3) := by decide +kernel
theorem dL_law_1338 : decode cL_law 1338 = .ok (.aload_n 1, 1) := by decide +kernel
theorem dL_law_1339 : decode cL_law 1339 = .ok (.aload_n 0, 1) := by decide +kernel
theorem dL_law_1340 : decode cL_law 1340 = .ok (.iload 4, 2) := by decide +kernel
theorem dL_law_1342 : decode cL_law 1342 = .ok (.iconst 1, 1) := by decide +kernel
theorem dL_law_1343 : decode cL_law 1343 = .ok (.iadd, 1) := by decide +kernel
theorem dL_law_1344 : decode cL_law 1344 = .ok (.iaload, 1) := by decide +kernel
theorem dL_law_1345 : decode cL_law 1345 = .ok (.aload_n 0, 1) := by decide +kernel
theorem dL_law_1346 : decode cL_law 1346 = .ok (.iload 4, 2) := by decide +kernel
theorem dL_law_1348 : decode cL_law 1348 = .ok (.iconst 2, 1) := by decide +kernel
theorem dL_law_1349 : decode cL_law 1349 = .ok (.iadd, 1) := by decide +kernel
theorem dL_law_1350 : decode cL_law 1350 = .ok (.iaload, 1) := by decide +kernel
theorem dL_law_1351 : decode cL_law 1351 = .ok (.aload_n 0, 1) := by decide +kernel
theorem dL_law_1352 : decode cL_law 1352 = .ok (.iload 4, 2) := by decide +kernel
theorem dL_law_1354 : decode cL_law 1354 = .ok (.iconst 3, 1) := by decide +kernel
theorem dL_law_1355 : decode cL_law 1355 = .ok (.iadd, 1) := by decide +kernel
theorem dL_law_1356 : decode cL_law 1356 = .ok (.iaload, 1) := by decide +kernel
theorem dL_law_1357 : decode cL_law 1357 = .ok (.invokestatic 174, 3) := by decide +kernel
theorem dL_law_1360 : decode cL_law 1360 = .ok (.istore 5, 2) := by decide +kernel
theorem dL_law_1362 : decode cL_law 1362 = .ok (.aload_n 2, 1) := by decide +kernel
theorem dL_law_1363 : decode cL_law 1363 = .ok (.aload_n 0, 1) := by decide +kernel
theorem dL_law_1364 : decode cL_law 1364 = .ok (.iload 4, 2) := by decide +kernel
theorem dL_law_1366 : decode cL_law 1366 = .ok (.iconst 1, 1) := by decide +kernel
theorem dL_law_1367 : decode cL_law 1367 = .ok (.iadd, 1) := by decide +kernel
theorem dL_law_1368 : decode cL_law 1368 = .ok (.iaload, 1) := by decide +kernel
theorem dL_law_1369 : decode cL_law 1369 = .ok (.aload_n 0, 1) := by decide +kernel
theorem dL_law_1370 : decode cL_law 1370 = .ok (.iload 4, 2) := by decide +kernel
theorem dL_law_1372 : decode cL_law 1372 = .ok (.iconst 2, 1) := by decide +kernel
theorem dL_law_1373 : decode cL_law 1373 = .ok (.iadd, 1) := by decide +kernel
theorem dL_law_1374 : decode cL_law 1374 = .ok (.iaload, 1) := by decide +kernel
theorem dL_law_1375 : decode cL_law 1375 = .ok (.aload_n 0, 1) := by decide +kernel
theorem dL_law_1376 : decode cL_law 1376 = .ok (.iload 4, 2) := by decide +kernel
theorem dL_law_1378 : decode cL_law 1378 = .ok (.iconst 3, 1) := by decide +kernel
theorem dL_law_1379 : decode cL_law 1379 = .ok (.iadd, 1) := by decide +kernel
theorem dL_law_1380 : decode cL_law 1380 = .ok (.iaload, 1) := by decide +kernel
theorem dL_law_1381 : decode cL_law 1381 = .ok (.invokevirtual 177, 3) := by decide +kernel
theorem dL_law_1384 : decode cL_law 1384 = .ok (.aload_n 2, 1) := by decide +kernel
theorem dL_law_1385 : decode cL_law 1385 = .ok (.invokevirtual 115, 3) := by decide +kernel
theorem dL_law_1388 : decode cL_law 1388 = .ok (.iload 5, 2) := by decide +kernel
theorem dL_law_1390 : decode cL_law 1390 = .ok (.if_icmp .eq 5, 3) := by decide +kernel
theorem dL_law_1393 : decode cL_law 1393 = .ok (.iconst 0, 1) := by decide +kernel
theorem dL_law_1394 : decode cL_law 1394 = .ok (.ireturn, 1) := by decide +kernel
theorem dL_law_1395 : decode cL_law 1395 = .ok (.goto 639, 3) := by decide +kernel
theorem dL_law_1398 : decode cL_law 1398 = .ok (.aload_n 1, 1) := by decide +kernel
theorem dL_law_1399 : decode cL_law 1399 = .ok (.aload_n 0, 1) := by decide +kernel
theorem dL_law_1400 : decode cL_law 1400 = .ok (.iload 4, 2) := by decide +kernel
theorem dL_law_1402 : decode cL_law 1402 = .ok (.iconst 1, 1) := by decide +kernel
theorem dL_law_1403 : decode cL_law 1403 = .ok (.iadd, 1) := by decide +kernel
theorem dL_law_1404 : decode cL_law 1404 = .ok (.iaload, 1) := by decide +kernel
theorem dL_law_1405 : decode cL_law 1405 = .ok (.aload_n 3, 1) := by decide +kernel
theorem dL_law_1406 : decode cL_law 1406 = .ok (.invokestatic 178, 3) := by decide +kernel
theorem dL_law_1409 : decode cL_law 1409 = .ok (.istore 5, 2) := by decide +kernel
theorem dL_law_1411 : decode cL_law 1411 = .ok (.aload_n 2, 1) := by decide +kernel
theorem dL_law_1412 : decode cL_law 1412 = .ok (.aload_n 0, 1) := by decide +kernel
theorem dL_law_1413 : decode cL_law 1413 = .ok (.iload 4, 2) := by decide +kernel
theorem dL_law_1415 : decode cL_law 1415 = .ok (.iconst 1, 1) := by decide +kernel
theorem dL_law_1416 : decode cL_law 1416 = .ok (.iadd, 1) := by decide +kernel
theorem dL_law_1417 : decode cL_law 1417 = .ok (.iaload, 1) := by decide +kernel
theorem dL_law_1418 : decode cL_law 1418 = .ok (.invokevirtual 180, 3) := by decide +kernel
theorem dL_law_1421 : decode cL_law 1421 = .ok (.istore 6, 2) := by decide +kernel
theorem dL_law_1423 : decode cL_law 1423 = .ok (.aload_n 2, 1) := by decide +kernel
theorem dL_law_1424 : decode cL_law 1424 = .ok (.invokevirtual 115, 3) := by decide +kernel
theorem dL_law_1427 : decode cL_law 1427 = .ok (.iload 5, 2) := by decide +kernel
theorem dL_law_1429 : decode cL_law 1429 = .ok (.if_icmp .eq 5, 3) := by decide +kernel
theorem dL_law_1432 : decode cL_law 1432 = .ok (.iconst 0, 1) := by decide +kernel
theorem dL_law_1433 : decode cL_law 1433 = .ok (.ireturn, 1) := by decide +kernel
theorem dL_law_1434 : decode cL_law 1434 = .ok (.iload 5, 2) := by decide +kernel
theorem dL_law_1436 : decode cL_law 1436 = .ok (.ifCond .ne 15, 3) := by decide +kernel
theorem dL_law_1439 : decode cL_law 1439 = .ok (.aload_n 3, 1) := by decide +kernel
theorem dL_law_1440 : decode cL_law 1440 = .ok (.iconst 0, 1) := by decide +kernel
theorem dL_law_1441 : decode cL_law 1441 = .ok (.laload, 1) := by decide +kernel
theorem dL_law_1442 : decode cL_law 1442 = .ok (.iload 6, 2) := by decide +kernel
theorem dL_law_1444 : decode cL_law 1444 = .ok (.i2l, 1) := by decide +kernel
theorem dL_law_1445 : decode cL_law 1445 = .ok (.lcmp, 1) := by decide +kernel
theorem dL_law_1446 : decode cL_law 1446 = .ok (.ifCond .eq 5, 3) := by decide +kernel
theorem dL_law_1449 : decode cL_law 1449 = .ok (.iconst 0, 1) := by decide +kernel
theorem dL_law_1450 : decode cL_law 1450 = .ok (.ireturn, 1) := by decide +kernel
theorem dL_law_1451 : decode cL_law 1451 = .ok (.goto 583, 3) := by decide +kernel
theorem dL_law_1454 : decode cL_law 1454 = .ok (.aload_n 1, 1) := by decide +kernel
theorem dL_law_1455 : decode cL_law 1455 = .ok (.aload_n 0, 1) := by decide +kernel
theorem dL_law_1456 : decode cL_law 1456 = .ok (.iload 4, 2) := by decide +kernel
theorem dL_law_1458 : decode cL_law 1458 = .ok (.iconst 1, 1) := by decide +kernel
theorem dL_law_1459 : decode cL_law 1459 = .ok (.iadd, 1) := by decide +kernel
theorem dL_law_1460 : decode cL_law 1460 = .ok (.iaload, 1) := by decide +kernel
theorem dL_law_1461 : decode cL_law 1461 = .ok (.ifCond .eq 7, 3) := by decide +kernel
theorem dL_law_1464 : decode cL_law 1464 = .ok (.iconst 1, 1) := by decide +kernel
theorem dL_law_1465 : decode cL_law 1465 = .ok (.goto 4, 3) := by decide +kernel
theorem dL_law_1468 : decode cL_law 1468 = .ok (.iconst 0, 1) := by decide +kernel
theorem dL_law_1469 : decode cL_law 1469 = .ok (.aload_n 0, 1) := by decide +kernel
theorem dL_law_1470 : decode cL_law 1470 = .ok (.iload 4, 2) := by decide +kernel
theorem dL_law_1472 : decode cL_law 1472 = .ok (.iconst 2, 1) := by decide +kernel
theorem dL_law_1473 : decode cL_law 1473 = .ok (.iadd, 1) := by decide +kernel
theorem dL_law_1474 : decode cL_law 1474 = .ok (.iaload, 1) := by decide +kernel
theorem dL_law_1475 : decode cL_law 1475 = .ok (.aload_n 3, 1) := by decide +kernel
theorem dL_law_1476 : decode cL_law 1476 = .ok (.invokestatic 181, 3) := by decide +kernel
theorem dL_law_1479 : decode cL_law 1479 = .ok (.istore 5, 2) := by decide +kernel
theorem dL_law_1481 : decode cL_law 1481 = .ok (.aload_n 2, 1) := by decide +kernel
theorem dL_law_1482 : decode cL_law 1482 = .ok (.aload_n 0, 1) := by decide +kernel
theorem dL_law_1483 : decode cL_law 1483 = .ok (.iload 4, 2) := by decide +kernel
theorem dL_law_1485 : decode cL_law 1485 = .ok (.iconst 1, 1) := by decide +kernel
theorem dL_law_1486 : decode cL_law 1486 = .ok (.iadd, 1) := by decide +kernel
theorem dL_law_1487 : decode cL_law 1487 = .ok (.iaload, 1) := by decide +kernel
theorem dL_law_1488 : decode cL_law 1488 = .ok (.ifCond .eq 7, 3) := by decide +kernel
theorem dL_law_1491 : decode cL_law 1491 = .ok (.iconst 1, 1) := by decide +kernel
theorem dL_law_1492 : decode cL_law 1492 = .ok (.goto 4, 3) := by decide +kernel
theorem dL_law_1495 : decode cL_law 1495 = .ok (.iconst 0, 1) := by decide +kernel
theorem dL_law_1496 : decode cL_law 1496 = .ok (.aload_n 0, 1) := by decide +kernel
theorem dL_law_1497 : decode cL_law 1497 = .ok (.iload 4, 2) := by decide +kernel
theorem dL_law_1499 : decode cL_law 1499 = .ok (.iconst 2, 1) := by decide +kernel
theorem dL_law_1500 : decode cL_law 1500 = .ok (.iadd, 1) := by decide +kernel
theorem dL_law_1501 : decode cL_law 1501 = .ok (.iaload, 1) := by decide +kernel
theorem dL_law_1502 : decode cL_law 1502 = .ok (.invokevirtual 184, 3) := by decide +kernel
theorem dL_law_1505 : decode cL_law 1505 = .ok (.istore 6, 2) := by decide +kernel
theorem dL_law_1507 : decode cL_law 1507 = .ok (.aload_n 2, 1) := by decide +kernel
theorem dL_law_1508 : decode cL_law 1508 = .ok (.invokevirtual 115, 3) := by decide +kernel
theorem dL_law_1511 : decode cL_law 1511 = .ok (.iload 5, 2) := by decide +kernel
theorem dL_law_1513 : decode cL_law 1513 = .ok (.if_icmp .eq 5, 3) := by decide +kernel
theorem dL_law_1516 : decode cL_law 1516 = .ok (.iconst 0, 1) := by decide +kernel
theorem dL_law_1517 : decode cL_law 1517 = .ok (.ireturn, 1) := by decide +kernel
theorem dL_law_1518 : decode cL_law 1518 = .ok (.iload 5, 2) := by decide +kernel
theorem dL_law_1520 : decode cL_law 1520 = .ok (.ifCond .ne 15, 3) := by decide +kernel
theorem dL_law_1523 : decode cL_law 1523 = .ok (.aload_n 3, 1) := by decide +kernel
theorem dL_law_1524 : decode cL_law 1524 = .ok (.iconst 0, 1) := by decide +kernel
theorem dL_law_1525 : decode cL_law 1525 = .ok (.laload, 1) := by decide +kernel
theorem dL_law_1526 : decode cL_law 1526 = .ok (.iload 6, 2) := by decide +kernel
theorem dL_law_1528 : decode cL_law 1528 = .ok (.i2l, 1) := by decide +kernel
theorem dL_law_1529 : decode cL_law 1529 = .ok (.lcmp, 1) := by decide +kernel
theorem dL_law_1530 : decode cL_law 1530 = .ok (.ifCond .eq 5, 3) := by decide +kernel
theorem dL_law_1533 : decode cL_law 1533 = .ok (.iconst 0, 1) := by decide +kernel
theorem dL_law_1534 : decode cL_law 1534 = .ok (.ireturn, 1) := by decide +kernel
theorem dL_law_1535 : decode cL_law 1535 = .ok (.goto 499, 3) := by decide +kernel
theorem dL_law_1538 : decode cL_law 1538 = .ok (.aload_n 1, 1) := by decide +kernel
theorem dL_law_1539 : decode cL_law 1539 = .ok (.aload_n 0, 1) := by decide +kernel
theorem dL_law_1540 : decode cL_law 1540 = .ok (.iload 4, 2) := by decide +kernel
theorem dL_law_1542 : decode cL_law 1542 = .ok (.iconst 1, 1) := by decide +kernel
theorem dL_law_1543 : decode cL_law 1543 = .ok (.iadd, 1) := by decide +kernel
theorem dL_law_1544 : decode cL_law 1544 = .ok (.iaload, 1) := by decide +kernel
theorem dL_law_1545 : decode cL_law 1545 = .ok (.aload_n 3, 1) := by decide +kernel
theorem dL_law_1546 : decode cL_law 1546 = .ok (.invokestatic 185, 3) := by decide +kernel
theorem dL_law_1549 : decode cL_law 1549 = .ok (.istore 5, 2) := by decide +kernel
theorem dL_law_1551 : decode cL_law 1551 = .ok (.aload_n 2, 1) := by decide +kernel
theorem dL_law_1552 : decode cL_law 1552 = .ok (.aload_n 0, 1) := by decide +kernel
theorem dL_law_1553 : decode cL_law 1553 = .ok (.iload 4, 2) := by decide +kernel
theorem dL_law_1555 : decode cL_law 1555 = .ok (.iconst 1, 1) := by decide +kernel
theorem dL_law_1556 : decode cL_law 1556 = .ok (.iadd, 1) := by decide +kernel
theorem dL_law_1557 : decode cL_law 1557 = .ok (.iaload, 1) := by decide +kernel
theorem dL_law_1558 : decode cL_law 1558 = .ok (.invokevirtual 187, 3) := by decide +kernel
theorem dL_law_1561 : decode cL_law 1561 = .ok (.lstore 6, 2) := by decide +kernel
theorem dL_law_1563 : decode cL_law 1563 = .ok (.aload_n 2, 1) := by decide +kernel
theorem dL_law_1564 : decode cL_law 1564 = .ok (.invokevirtual 115, 3) := by decide +kernel
theorem dL_law_1567 : decode cL_law 1567 = .ok (.iload 5, 2) := by decide +kernel
theorem dL_law_1569 : decode cL_law 1569 = .ok (.if_icmp .eq 5, 3) := by decide +kernel
theorem dL_law_1572 : decode cL_law 1572 = .ok (.iconst 0, 1) := by decide +kernel
theorem dL_law_1573 : decode cL_law 1573 = .ok (.ireturn, 1) := by decide +kernel
theorem dL_law_1574 : decode cL_law 1574 = .ok (.iload 5, 2) := by decide +kernel
theorem dL_law_1576 : decode cL_law 1576 = .ok (.ifCond .ne 14, 3) := by decide +kernel
theorem dL_law_1579 : decode cL_law 1579 = .ok (.aload_n 3, 1) := by decide +kernel
theorem dL_law_1580 : decode cL_law 1580 = .ok (.iconst 0, 1) := by decide +kernel
theorem dL_law_1581 : decode cL_law 1581 = .ok (.laload, 1) := by decide +kernel
theorem dL_law_1582 : decode cL_law 1582 = .ok (.lload 6, 2) := by decide +kernel
theorem dL_law_1584 : decode cL_law 1584 = .ok (.lcmp, 1) := by decide +kernel
theorem dL_law_1585 : decode cL_law 1585 = .ok (.ifCond .eq 5, 3) := by decide +kernel
theorem dL_law_1588 : decode cL_law 1588 = .ok (.iconst 0, 1) := by decide +kernel
theorem dL_law_1589 : decode cL_law 1589 = .ok (.ireturn, 1) := by decide +kernel
theorem dL_law_1590 : decode cL_law 1590 = .ok (.goto 444, 3) := by decide +kernel
theorem dL_law_1593 : decode cL_law 1593 = .ok (.aload_n 1, 1) := by decide +kernel
theorem dL_law_1594 : decode cL_law 1594 = .ok (.aload_n 0, 1) := by decide +kernel
theorem dL_law_1595 : decode cL_law 1595 = .ok (.iload 4, 2) := by decide +kernel
theorem dL_law_1597 : decode cL_law 1597 = .ok (.iconst 1, 1) := by decide +kernel
theorem dL_law_1598 : decode cL_law 1598 = .ok (.iadd, 1) := by decide +kernel
theorem dL_law_1599 : decode cL_law 1599 = .ok (.iaload, 1) := by decide +kernel
theorem dL_law_1600 : decode cL_law 1600 = .ok (.aload_n 0, 1) := by decide +kernel
theorem dL_law_1601 : decode cL_law 1601 = .ok (.iload 4, 2) := by decide +kernel
theorem dL_law_1603 : decode cL_law 1603 = .ok (.iconst 2, 1) := by decide +kernel
theorem dL_law_1604 : decode cL_law 1604 = .ok (.iadd, 1) := by decide +kernel
theorem dL_law_1605 : decode cL_law 1605 = .ok (.iaload, 1) := by decide +kernel
theorem dL_law_1606 : decode cL_law 1606 = .ok (.aload_n 0, 1) := by decide +kernel
theorem dL_law_1607 : decode cL_law 1607 = .ok (.iload 4, 2) := by decide +kernel
theorem dL_law_1609 : decode cL_law 1609 = .ok (.iconst 3, 1) := by decide +kernel
theorem dL_law_1610 : decode cL_law 1610 = .ok (.iadd, 1) := by decide +kernel
theorem dL_law_1611 : decode cL_law 1611 = .ok (.iaload, 1) := by decide +kernel
theorem dL_law_1612 : decode cL_law 1612 = .ok (.aload_n 3, 1) := by decide +kernel
theorem dL_law_1613 : decode cL_law 1613 = .ok (.invokestatic 188, 3) := by decide +kernel
theorem dL_law_1616 : decode cL_law 1616 = .ok (.istore 5, 2) := by decide +kernel
theorem dL_law_1618 : decode cL_law 1618 = .ok (.aload_n 2, 1) := by decide +kernel
theorem dL_law_1619 : decode cL_law 1619 = .ok (.aload_n 0, 1) := by decide +kernel
theorem dL_law_1620 : decode cL_law 1620 = .ok (.iload 4, 2) := by decide +kernel
theorem dL_law_1622 : decode cL_law 1622 = .ok (.iconst 1, 1) := by decide +kernel
theorem dL_law_1623 : decode cL_law 1623 = .ok (.iadd, 1) := by decide +kernel
theorem dL_law_1624 : decode cL_law 1624 = .ok (.iaload, 1) := by decide +kernel
theorem dL_law_1625 : decode cL_law 1625 = .ok (.aload_n 0, 1) := by decide +kernel
