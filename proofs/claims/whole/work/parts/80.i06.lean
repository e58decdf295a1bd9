theorem dX7_init_1074 : decode cX7_init 1074 = .ok (.sipush (-401), 3) := by decide +kernel
theorem dX7_init_1077 : decode cX7_init 1077 = .ok (.iastore, 1) := by decide +kernel
theorem dX7_init_1078 : decode cX7_init 1078 = .ok (.dup, 1) := by decide +kernel
theorem dX7_init_1079 : decode cX7_init 1079 = .ok (.bipush 96, 2) := by decide +kernel
theorem dX7_init_1081 : decode cX7_init 1081 = .ok (.sipush (-459), 3) := by decide +kernel
theorem dX7_init_1084 : decode cX7_init 1084 = .ok (.iastore, 1) := by decide +kernel
theorem dX7_init_1085 : decode cX7_init 1085 = .ok (.dup, 1) := by decide +kernel
theorem dX7_init_1086 : decode cX7_init 1086 = .ok (.bipush 97, 2) := by decide +kernel
theorem dX7_init_1088 : decode cX7_init 1088 = .ok (.sipush (-519), 3) := by decide +kernel
theorem dX7_init_1091 : decode cX7_init 1091 = .ok (.iastore, 1) := by decide +kernel
theorem dX7_init_1092 : decode cX7_init 1092 = .ok (.dup, 1) := by decide +kernel
theorem dX7_init_1093 : decode cX7_init 1093 = .ok (.bipush 98, 2) := by decide +kernel
theorem dX7_init_1095 : decode cX7_init 1095 = .ok (.sipush (-581), 3) := by decide +kernel
theorem dX7_init_1098 : decode cX7_init 1098 = .ok (.iastore, 1) := by decide +kernel
theorem dX7_init_1099 : decode cX7_init 1099 = .ok (.dup, 1) := by decide +kernel
theorem dX7_init_1100 : decode cX7_init 1100 = .ok (.bipush 99, 2) := by decide +kernel
theorem dX7_init_1102 : decode cX7_init 1102 = .ok (.sipush (-645), 3) := by decide +kernel
theorem dX7_init_1105 : decode cX7_init 1105 = .ok (.iastore, 1) := by decide +kernel
theorem dX7_init_1106 : decode cX7_init 1106 = .ok (.dup, 1) := by decide +kernel
theorem dX7_init_1107 : decode cX7_init 1107 = .ok (.bipush 100, 2) := by decide +kernel
theorem dX7_init_1109 : decode cX7_init 1109 = .ok (.sipush (-711), 3) := by decide +kernel
theorem dX7_init_1112 : decode cX7_init 1112 = .ok (.iastore, 1) := by decide +kernel
theorem dX7_init_1113 : decode cX7_init 1113 = .ok (.dup, 1) := by decide +kernel
theorem dX7_init_1114 : decode cX7_init 1114 = .ok (.bipush 101, 2) := by decide +kernel
theorem dX7_init_1116 : decode cX7_init 1116 = .ok (.sipush (-779), 3) := by decide +kernel
theorem dX7_init_1119 : decode cX7_init 1119 = .ok (.iastore, 1) := by decide +kernel
theorem dX7_init_1120 : decode cX7_init 1120 = .ok (.dup, 1) := by decide +kernel
theorem dX7_init_1121 : decode cX7_init 1121 = .ok (.bipush 102, 2) := by decide +kernel
theorem dX7_init_1123 : decode cX7_init 1123 = .ok (.sipush (-848), 3) := by decide +kernel
theorem dX7_init_1126 : decode cX7_init 1126 = .ok (.iastore, 1) := by decide +kernel
theorem dX7_init_1127 : decode cX7_init 1127 = .ok (.dup, 1) := by decide +kernel
theorem dX7_init_1128 : decode cX7_init 1128 = .ok (.bipush 103, 2) := by decide +kernel
theorem dX7_init_1130 : decode cX7_init 1130 = .ok (.sipush (-919), 3) := by decide +kernel
theorem dX7_init_1133 : decode cX7_init 1133 = .ok (.iastore, 1) := by decide +kernel
theorem dX7_init_1134 : decode cX7_init 1134 = .ok (.dup, 1) := by decide +kernel
theorem dX7_init_1135 : decode cX7_init 1135 = .ok (.bipush 104, 2) := by decide +kernel
theorem dX7_init_1137 : decode cX7_init 1137 = .ok (.sipush (-991), 3) := by decide +kernel
theorem dX7_init_1140 : decode cX7_init 1140 = .ok (.iastore, 1) := by decide +kernel
theorem dX7_init_1141 : decode cX7_init 1141 = .ok (.dup, 1) := by decide +kernel
theorem dX7_init_1142 : decode cX7_init 1142 = .ok (.bipush 105, 2) := by decide +kernel
theorem dX7_init_1144 : decode cX7_init 1144 = .ok (.sipush (-1064), 3) := by decide +kernel
theorem dX7_init_1147 : decode cX7_init 1147 = .ok (.iastore, 1) := by decide +kernel
theorem dX7_init_1148 : decode cX7_init 1148 = .ok (.dup, 1) := by decide +kernel
theorem dX7_init_1149 : decode cX7_init 1149 = .ok (.bipush 106, 2) := by decide +kernel
theorem dX7_init_1151 : decode cX7_init 1151 = .ok (.sipush (-1137), 3) := by decide +kernel
theorem dX7_init_1154 : decode cX7_init 1154 = .ok (.iastore, 1) := by decide +kernel
theorem dX7_init_1155 : decode cX7_init 1155 = .ok (.dup, 1) := by decide +kernel
theorem dX7_init_1156 : decode cX7_init 1156 = .ok (.bipush 107, 2) := by decide +kernel
theorem dX7_init_1158 : decode cX7_init 1158 = .ok (.sipush (-1210), 3) := by decide +kernel
theorem dX7_init_1161 : decode cX7_init 1161 = .ok (.iastore, 1) := by decide +kernel
theorem dX7_init_1162 : decode cX7_init 1162 = .ok (.dup, 1) := by decide +kernel
theorem dX7_init_1163 : decode cX7_init 1163 = .ok (.bipush 108, 2) := by decide +kernel
theorem dX7_init_1165 : decode cX7_init 1165 = .ok (.sipush (-1283), 3) := by decide +kernel
theorem dX7_init_1168 : decode cX7_init 1168 = .ok (.iastore, 1) := by decide +kernel
theorem dX7_init_1169 : decode cX7_init 1169 = .ok (.dup, 1) := by decide +kernel
theorem dX7_init_1170 : decode cX7_init 1170 = .ok (.bipush 109, 2) := by decide +kernel
theorem dX7_init_1172 : decode cX7_init 1172 = .ok (.sipush (-1356), 3) := by decide +kernel
theorem dX7_init_1175 : decode cX7_init 1175 = .ok (.iastore, 1) := by decide +kernel
theorem dX7_init_1176 : decode cX7_init 1176 = .ok (.dup, 1) := by decide +kernel
theorem dX7_init_1177 : decode cX7_init 1177 = .ok (.bipush 110, 2) := by decide +kernel
theorem dX7_init_1179 : decode cX7_init 1179 = .ok (.sipush (-1428), 3) := by decide +kernel
theorem dX7_init_1182 : decode cX7_init 1182 = .ok (.iastore, 1) := by decide +kernel
theorem dX7_init_1183 : decode cX7_init 1183 = .ok (.dup, 1) := by decide +kernel
theorem dX7_init_1184 : decode cX7_init 1184 = .ok (.bipush 111, 2) := by decide +kernel
theorem dX7_init_1186 : decode cX7_init 1186 = .ok (.sipush (-1498), 3) := by decide +kernel
theorem dX7_init_1189 : decode cX7_init 1189 = .ok (.iastore, 1) := by decide +kernel
theorem dX7_init_1190 : decode cX7_init 1190 = .ok (.dup, 1) := by decide +kernel
theorem dX7_init_1191 : decode cX7_init 1191 = .ok (.bipush 112, 2) := by decide +kernel
theorem dX7_init_1193 : decode cX7_init 1193 = .ok (.sipush (-1567), 3) := by decide +kernel
theorem dX7_init_1196 : decode cX7_init 1196 = .ok (.iastore, 1) := by decide +kernel
theorem dX7_init_1197 : decode cX7_init 1197 = .ok (.dup, 1) := by decide +kernel
theorem dX7_init_1198 : decode cX7_init 1198 = .ok (.bipush 113, 2) := by decide +kernel
theorem dX7_init_1200 : decode cX7_init 1200 = .ok (.sipush (-1634), 3) := by decide +kernel
theorem dX7_init_1203 : decode cX7_init 1203 = .ok (.iastore, 1) := by decide +kernel
theorem dX7_init_1204 : decode cX7_init 1204 = .ok (.dup, 1) := by decide +kernel
theorem dX7_init_1205 : decode cX7_init 1205 = .ok (.bipush 114, 2) := by decide +kernel
theorem dX7_init_1207 : decode cX7_init 1207 = .ok (.sipush (-1698), 3) := by decide +kernel
theorem dX7_init_1210 : decode cX7_init 1210 = .ok (.iastore, 1) := by decide +kernel
theorem dX7_init_1211 : decode cX7_init 1211 = .ok (.dup, 1) := by decide +kernel
theorem dX7_init_1212 : decode cX7_init 1212 = .ok (.bipush 115, 2) := by decide +kernel
theorem dX7_init_1214 : decode cX7_init 1214 = .ok (.sipush (-1759), 3) := by decide +kernel
theorem dX7_init_1217 : decode cX7_init 1217 = .ok (.iastore, 1) := by decide +kernel
theorem dX7_init_1218 : decode cX7_init 1218 = .ok (.dup, 1) := by decide +kernel
theorem dX7_init_1219 : decode cX7_init 1219 = .ok (.bipush 116, 2) := by decide +kernel
theorem dX7_init_1221 : decode cX7_init 1221 = .ok (.sipush (-1817), 3) := by decide +kernel
theorem dX7_init_1224 : decode cX7_init 1224 = .ok (.iastore, 1) := by decide +kernel
theorem dX7_init_1225 : decode cX7_init 1225 = .ok (.dup, 1) := by decide +kernel
theorem dX7_init_1226 : decode cX7_init 1226 = .ok (.bipush 117, 2) := by decide +kernel
theorem dX7_init_1228 : decode cX7_init 1228 = .ok (.sipush (-1870), 3) := by decide +kernel
theorem dX7_init_1231 : decode cX7_init 1231 = .ok (.iastore, 1) := by decide +kernel
theorem dX7_init_1232 : decode cX7_init 1232 = .ok (.dup, 1) := by decide +kernel
theorem dX7_init_1233 : decode cX7_init 1233 = .ok (.bipush 118, 2) := by decide +kernel
theorem dX7_init_1235 : decode cX7_init 1235 = .ok (.sipush (-1919), 3) := by decide +kernel
theorem dX7_init_1238 : decode cX7_init 1238 = .ok (.iastore, 1) := by decide +kernel
theorem dX7_init_1239 : decode cX7_init 1239 = .ok (.dup, 1) := by decide +kernel
theorem dX7_init_1240 : decode cX7_init 1240 = .ok (.bipush 119, 2) := by decide +kernel
theorem dX7_init_1242 : decode cX7_init 1242 = .ok (.sipush (-1962), 3) := by decide +kernel
theorem dX7_init_1245 : decode cX7_init 1245 = .ok (.iastore, 1) := by decide +kernel
theorem dX7_init_1246 : decode cX7_init 1246 = .ok (.dup, 1) := by decide +kernel
theorem dX7_init_1247 : decode cX7_init 1247 = .ok (.bipush 120, 2) := by decide +kernel
theorem dX7_init_1249 : decode cX7_init 1249 = .ok (.sipush (-2001), 3) := by decide +kernel
theorem dX7_init_1252 : decode cX7_init 1252 = .ok (.iastore, 1) := by decide +kernel
theorem dX7_init_1253 : decode cX7_init 1253 = .ok (.dup, 1) := by decide +kernel
theorem dX7_init_1254 : decode cX7_init 1254 = .ok (.bipush 121, 2) := by decide +kernel
theorem dX7_init_1256 : decode cX7_init 1256 = .ok (.sipush (-2032), 3) := by decide +kernel
theorem dX7_init_1259 : decode cX7_init 1259 = .ok (.iastore, 1) := by decide +kernel
theorem dX7_init_1260 : decode cX7_init 1260 = .ok (.dup, 1) := by decide +kernel
theorem dX7_init_1261 : decode cX7_init 1261 = .ok (.bipush 122, 2) := by decide +kernel
theorem dX7_init_1263 : decode cX7_init 1263 = .ok (.sipush (-2057), 3) := by decide +kernel
theorem dX7_init_1266 : decode cX7_init 1266 = .ok (.iastore, 1) := by decide +kernel
theorem dX7_init_1267 : decode cX7_init 1267 = .ok (.dup, 1) := by decide +kernel
theorem dX7_init_1268 : decode cX7_init 1268 = .ok (.bipush 123, 2) := by decide +kernel
theorem dX7_init_1270 : decode cX7_init 1270 = .ok (.sipush (-2075), 3) := by decide +kernel
theorem dX7_init_1273 : decode cX7_init 1273 = .ok (.iastore, 1) := by decide +kernel
theorem dX7_init_1274 : decode cX7_init 1274 = .ok (.dup, 1) := by decide +kernel
theorem dX7_init_1275 : decode cX7_init 1275 = .ok (.bipush 124, 2) := by decide +kernel
theorem dX7_init_1277 : decode cX7_init 1277 = .ok (.sipush (-2085), 3) := by decide +kernel
theorem dX7_init_1280 : decode cX7_init 1280 = .ok (.iastore, 1) := by decide +kernel
theorem dX7_init_1281 : decode cX7_init 1281 = .ok (.dup, 1) := by decide +kernel
theorem dX7_init_1282 : decode cX7_init 1282 = .ok (.bipush 125, 2) := by decide +kernel
theorem dX7_init_1284 : decode cX7_init 1284 = .ok (.sipush (-2087), 3) := by decide +kernel
theorem dX7_init_1287 : decode cX7_init 1287 = .ok (.iastore, 1) := by decide +kernel
theorem dX7_init_1288 : decode cX7_init 1288 = .ok (.dup, 1) := by decide +kernel
theorem dX7_init_1289 : decode cX7_init 1289 = .ok (.bipush 126, 2) := by decide +kernel
theorem dX7_init_1291 : decode cX7_init 1291 = .ok (.sipush (-2080), 3) := by decide +kernel
theorem dX7_init_1294 : decode cX7_init 1294 = .ok (.iastore, 1) := by decide +kernel
theorem dX7_init_1295 : decode cX7_init 1295 = .ok (.dup, 1) := by decide +kernel
theorem dX7_init_1296 : decode cX7_init 1296 = .ok (.bipush 127, 2) := by decide +kernel
theorem dX7_init_1298 : decode cX7_init 1298 = .ok (.sipush (-2063), 3) := by decide +kernel
theorem dX7_init_1301 : decode cX7_init 1301 = .ok (.iastore, 1) := by decide +kernel
