theorem q0_1082 : z_m0.2.2.2.2.2.lookup 1082 = some (.iconst 0, 1) := by decide +kernel
theorem q0_1083 : z_m0.2.2.2.2.2.lookup 1083 = some (.ireturn, 1) := by decide +kernel
theorem q0_1084 : z_m0.2.2.2.2.2.lookup 1084 = some (.aload_n 1, 1) := by decide +kernel
theorem q0_1085 : z_m0.2.2.2.2.2.lookup 1085 = some (.aload_n 0, 1) := by decide +kernel
theorem q0_1086 : z_m0.2.2.2.2.2.lookup 1086 = some (.iload_n 3, 1) := by decide +kernel
theorem q0_1087 : z_m0.2.2.2.2.2.lookup 1087 = some (.iconst 1, 1) := by decide +kernel
theorem q0_1088 : z_m0.2.2.2.2.2.lookup 1088 = some (.iadd, 1) := by decide +kernel
theorem q0_1089 : z_m0.2.2.2.2.2.lookup 1089 = some (.iaload, 1) := by decide +kernel
theorem q0_1090 : z_m0.2.2.2.2.2.lookup 1090 = some (.aload_n 0, 1) := by decide +kernel
theorem q0_1091 : z_m0.2.2.2.2.2.lookup 1091 = some (.iload_n 3, 1) := by decide +kernel
theorem q0_1092 : z_m0.2.2.2.2.2.lookup 1092 = some (.iconst 2, 1) := by decide +kernel
theorem q0_1093 : z_m0.2.2.2.2.2.lookup 1093 = some (.iadd, 1) := by decide +kernel
theorem q0_1094 : z_m0.2.2.2.2.2.lookup 1094 = some (.iaload, 1) := by decide +kernel
theorem q0_1095 : z_m0.2.2.2.2.2.lookup 1095 = some (.aload_n 0, 1) := by decide +kernel
theorem q0_1096 : z_m0.2.2.2.2.2.lookup 1096 = some (.iload_n 3, 1) := by decide +kernel
theorem q0_1097 : z_m0.2.2.2.2.2.lookup 1097 = some (.iconst 3, 1) := by decide +kernel
theorem q0_1098 : z_m0.2.2.2.2.2.lookup 1098 = some (.iadd, 1) := by decide +kernel
theorem q0_1099 : z_m0.2.2.2.2.2.lookup 1099 = some (.iaload, 1) := by decide +kernel
theorem q0_1100 : z_m0.2.2.2.2.2.lookup 1100 = some (.invokevirtual 122, 3) := by decide +kernel
theorem q0_1103 : z_m0.2.2.2.2.2.lookup 1103 = some (.aload_n 2, 1) := by decide +kernel
theorem q0_1104 : z_m0.2.2.2.2.2.lookup 1104 = some (.aload_n 0, 1) := by decide +kernel
theorem q0_1105 : z_m0.2.2.2.2.2.lookup 1105 = some (.iload_n 3, 1) := by decide +kernel
theorem q0_1106 : z_m0.2.2.2.2.2.lookup 1106 = some (.iconst 1, 1) := by decide +kernel
theorem q0_1107 : z_m0.2.2.2.2.2.lookup 1107 = some (.iadd, 1) := by decide +kernel
theorem q0_1108 : z_m0.2.2.2.2.2.lookup 1108 = some (.iaload, 1) := by decide +kernel
theorem q0_1109 : z_m0.2.2.2.2.2.lookup 1109 = some (.aload_n 0, 1) := by decide +kernel
theorem q0_1110 : z_m0.2.2.2.2.2.lookup 1110 = some (.iload_n 3, 1) := by decide +kernel
theorem q0_1111 : z_m0.2.2.2.2.2.lookup 1111 = some (.iconst 2, 1) := by decide +kernel
theorem q0_1112 : z_m0.2.2.2.2.2.lookup 1112 = some (.iadd, 1) := by decide +kernel
theorem q0_1113 : z_m0.2.2.2.2.2.lookup 1113 = some (.iaload, 1) := by decide +kernel
theorem q0_1114 : z_m0.2.2.2.2.2.lookup 1114 = some (.aload_n 0, 1) := by decide +kernel
theorem q0_1115 : z_m0.2.2.2.2.2.lookup 1115 = some (.iload_n 3, 1) := by decide +kernel
theorem q0_1116 : z_m0.2.2.2.2.2.lookup 1116 = some (.iconst 3, 1) := by decide +kernel
theorem q0_1117 : z_m0.2.2.2.2.2.lookup 1117 = some (.iadd, 1) := by decide +kernel
theorem q0_1118 : z_m0.2.2.2.2.2.lookup 1118 = some (.iaload, 1) := by decide +kernel
theorem q0_1119 : z_m0.2.2.2.2.2.lookup 1119 = some (.invokevirtual 125, 3) := by decide +kernel
theorem q0_1122 : z_m0.2.2.2.2.2.lookup 1122 = some (.if_icmp .eq 474, 3) := by decide +kernel
theorem q0_1125 : z_m0.2.2.2.2.2.lookup 1125 = some (.iconst 0, 1) := by decide +kernel
theorem q0_1126 : z_m0.2.2.2.2.2.lookup 1126 = some (.ireturn, 1) := by decide +kernel
theorem q0_1127 : z_m0.2.2.2.2.2.lookup 1127 = some (.aload_n 1, 1) := by decide +kernel
theorem q0_1128 : z_m0.2.2.2.2.2.lookup 1128 = some (.aload_n 0, 1) := by decide +kernel
theorem q0_1129 : z_m0.2.2.2.2.2.lookup 1129 = some (.iload_n 3, 1) := by decide +kernel
theorem q0_1130 : z_m0.2.2.2.2.2.lookup 1130 = some (.iconst 1, 1) := by decide +kernel
theorem q0_1131 : z_m0.2.2.2.2.2.lookup 1131 = some (.iadd, 1) := by decide +kernel
theorem q0_1132 : z_m0.2.2.2.2.2.lookup 1132 = some (.iaload, 1) := by decide +kernel
theorem q0_1133 : z_m0.2.2.2.2.2.lookup 1133 = some (.aload_n 0, 1) := by decide +kernel
theorem q0_1134 : z_m0.2.2.2.2.2.lookup 1134 = some (.iload_n 3, 1) := by decide +kernel
theorem q0_1135 : z_m0.2.2.2.2.2.lookup 1135 = some (.iconst 2, 1) := by decide +kernel
theorem q0_1136 : z_m0.2.2.2.2.2.lookup 1136 = some (.iadd, 1) := by decide +kernel
theorem q0_1137 : z_m0.2.2.2.2.2.lookup 1137 = some (.iaload, 1) := by decide +kernel
theorem q0_1138 : z_m0.2.2.2.2.2.lookup 1138 = some (.invokevirtual 126, 3) := by decide +kernel
theorem q0_1141 : z_m0.2.2.2.2.2.lookup 1141 = some (.aload_n 2, 1) := by decide +kernel
theorem q0_1142 : z_m0.2.2.2.2.2.lookup 1142 = some (.aload_n 0, 1) := by decide +kernel
theorem q0_1143 : z_m0.2.2.2.2.2.lookup 1143 = some (.iload_n 3, 1) := by decide +kernel
theorem q0_1144 : z_m0.2.2.2.2.2.lookup 1144 = some (.iconst 1, 1) := by decide +kernel
theorem q0_1145 : z_m0.2.2.2.2.2.lookup 1145 = some (.iadd, 1) := by decide +kernel
theorem q0_1146 : z_m0.2.2.2.2.2.lookup 1146 = some (.iaload, 1) := by decide +kernel
theorem q0_1147 : z_m0.2.2.2.2.2.lookup 1147 = some (.aload_n 0, 1) := by decide +kernel
theorem q0_1148 : z_m0.2.2.2.2.2.lookup 1148 = some (.iload_n 3, 1) := by decide +kernel
theorem q0_1149 : z_m0.2.2.2.2.2.lookup 1149 = some (.iconst 2, 1) := by decide +kernel
theorem q0_1150 : z_m0.2.2.2.2.2.lookup 1150 = some (.iadd, 1) := by decide +kernel
theorem q0_1151 : z_m0.2.2.2.2.2.lookup 1151 = some (.iaload, 1) := by decide +kernel
theorem q0_1152 : z_m0.2.2.2.2.2.lookup 1152 = some (.invokevirtual 129, 3) := by decide +kernel
theorem q0_1155 : z_m0.2.2.2.2.2.lookup 1155 = some (.if_icmp .eq 441, 3) := by decide +kernel
theorem q0_1158 : z_m0.2.2.2.2.2.lookup 1158 = some (.iconst 0, 1) := by decide +kernel
theorem q0_1159 : z_m0.2.2.2.2.2.lookup 1159 = some (.ireturn, 1) := by decide +kernel
theorem q0_1160 : z_m0.2.2.2.2.2.lookup 1160 = some (.aload_n 1, 1) := by decide +kernel
theorem q0_1161 : z_m0.2.2.2.2.2.lookup 1161 = some (.aload_n 0, 1) := by decide +kernel
theorem q0_1162 : z_m0.2.2.2.2.2.lookup 1162 = some (.iload_n 3, 1) := by decide +kernel
theorem q0_1163 : z_m0.2.2.2.2.2.lookup 1163 = some (.iconst 1, 1) := by decide +kernel
theorem q0_1164 : z_m0.2.2.2.2.2.lookup 1164 = some (.iadd, 1) := by decide +kernel
theorem q0_1165 : z_m0.2.2.2.2.2.lookup 1165 = some (.iaload, 1) := by decide +kernel
theorem q0_1166 : z_m0.2.2.2.2.2.lookup 1166 = some (.aload_n 0, 1) := by decide +kernel
theorem q0_1167 : z_m0.2.2.2.2.2.lookup 1167 = some (.iload_n 3, 1) := by decide +kernel
theorem q0_1168 : z_m0.2.2.2.2.2.lookup 1168 = some (.iconst 2, 1) := by decide +kernel
theorem q0_1169 : z_m0.2.2.2.2.2.lookup 1169 = some (.iadd, 1) := by decide +kernel
theorem q0_1170 : z_m0.2.2.2.2.2.lookup 1170 = some (.iaload, 1) := by decide +kernel
theorem q0_1171 : z_m0.2.2.2.2.2.lookup 1171 = some (.invokevirtual 130, 3) := by decide +kernel
theorem q0_1174 : z_m0.2.2.2.2.2.lookup 1174 = some (.aload_n 2, 1) := by decide +kernel
theorem q0_1175 : z_m0.2.2.2.2.2.lookup 1175 = some (.aload_n 0, 1) := by decide +kernel
theorem q0_1176 : z_m0.2.2.2.2.2.lookup 1176 = some (.iload_n 3, 1) := by decide +kernel
theorem q0_1177 : z_m0.2.2.2.2.2.lookup 1177 = some (.iconst 1, 1) := by decide +kernel
theorem q0_1178 : z_m0.2.2.2.2.2.lookup 1178 = some (.iadd, 1) := by decide +kernel
theorem q0_1179 : z_m0.2.2.2.2.2.lookup 1179 = some (.iaload, 1) := by decide +kernel
theorem q0_1180 : z_m0.2.2.2.2.2.lookup 1180 = some (.aload_n 0, 1) := by decide +kernel
theorem q0_1181 : z_m0.2.2.2.2.2.lookup 1181 = some (.iload_n 3, 1) := by decide +kernel
theorem q0_1182 : z_m0.2.2.2.2.2.lookup 1182 = some (.iconst 2, 1) := by decide +kernel
theorem q0_1183 : z_m0.2.2.2.2.2.lookup 1183 = some (.iadd, 1) := by decide +kernel
theorem q0_1184 : z_m0.2.2.2.2.2.lookup 1184 = some (.iaload, 1) := by decide +kernel
theorem q0_1185 : z_m0.2.2.2.2.2.lookup 1185 = some (.invokevirtual 133, 3) := by decide +kernel
theorem q0_1188 : z_m0.2.2.2.2.2.lookup 1188 = some (.if_icmp .eq 408, 3) := by decide +kernel
theorem q0_1191 : z_m0.2.2.2.2.2.lookup 1191 = some (.iconst 0, 1) := by decide +kernel
theorem q0_1192 : z_m0.2.2.2.2.2.lookup 1192 = some (.ireturn, 1) := by decide +kernel
theorem q0_1193 : z_m0.2.2.2.2.2.lookup 1193 = some (.aload_n 1, 1) := by decide +kernel
theorem q0_1194 : z_m0.2.2.2.2.2.lookup 1194 = some (.aload_n 0, 1) := by decide +kernel
theorem q0_1195 : z_m0.2.2.2.2.2.lookup 1195 = some (.iload_n 3, 1) := by decide +kernel
theorem q0_1196 : z_m0.2.2.2.2.2.lookup 1196 = some (.iconst 1, 1) := by decide +kernel
theorem q0_1197 : z_m0.2.2.2.2.2.lookup 1197 = some (.iadd, 1) := by decide +kernel
theorem q0_1198 : z_m0.2.2.2.2.2.lookup 1198 = some (.iaload, 1) := by decide +kernel
theorem q0_1199 : z_m0.2.2.2.2.2.lookup 1199 = some (.aload_n 0, 1) := by decide +kernel
theorem q0_1200 : z_m0.2.2.2.2.2.lookup 1200 = some (.iload_n 3, 1) := by decide +kernel
theorem q0_1201 : z_m0.2.2.2.2.2.lookup 1201 = some (.iconst 2, 1) := by decide +kernel
theorem q0_1202 : z_m0.2.2.2.2.2.lookup 1202 = some (.iadd, 1) := by decide +kernel
theorem q0_1203 : z_m0.2.2.2.2.2.lookup 1203 = some (.iaload, 1) := by decide +kernel
theorem q0_1204 : z_m0.2.2.2.2.2.lookup 1204 = some (.invokevirtual 134, 3) := by decide +kernel
theorem q0_1207 : z_m0.2.2.2.2.2.lookup 1207 = some (.aload_n 2, 1) := by decide +kernel
theorem q0_1208 : z_m0.2.2.2.2.2.lookup 1208 = some (.aload_n 0, 1) := by decide +kernel
theorem q0_1209 : z_m0.2.2.2.2.2.lookup 1209 = some (.iload_n 3, 1) := by decide +kernel
theorem q0_1210 : z_m0.2.2.2.2.2.lookup 1210 = some (.iconst 1, 1) := by decide +kernel
theorem q0_1211 : z_m0.2.2.2.2.2.lookup 1211 = some (.iadd, 1) := by decide +kernel
theorem q0_1212 : z_m0.2.2.2.2.2.lookup 1212 = some (.iaload, 1) := by decide +kernel
theorem q0_1213 : z_m0.2.2.2.2.2.lookup 1213 = some (.aload_n 0, 1) := by decide +kernel
theorem q0_1214 : z_m0.2.2.2.2.2.lookup 1214 = some (.iload_n 3, 1) := by decide +kernel
theorem q0_1215 : z_m0.2.2.2.2.2.lookup 1215 = some (.iconst 2, 1) := by decide +kernel
theorem q0_1216 : z_m0.2.2.2.2.2.lookup 1216 = some (.iadd, 1) := by decide +kernel
theorem q0_1217 : z_m0.2.2.2.2.2.lookup 1217 = some (.iaload, 1) := by decide +kernel
theorem q0_1218 : z_m0.2.2.2.2.2.lookup 1218 = some (.invokevirtual 137, 3) := by decide +kernel
theorem q0_1221 : z_m0.2.2.2.2.2.lookup 1221 = some (.if_icmp .eq 375, 3) := by decide +kernel
theorem q0_1224 : z_m0.2.2.2.2.2.lookup 1224 = some (.iconst 0, 1) := by decide +kernel
theorem q0_1225 : z_m0.2.2.2.2.2.lookup 1225 = some (.ireturn, 1) := by decide +kernel
theorem q0_1226 : z_m0.2.2.2.2.2.lookup 1226 = some (.aload_n 1, 1) := by decide +kernel
theorem q0_1227 : z_m0.2.2.2.2.2.lookup 1227 = some (.aload_n 0, 1) := by decide +kernel
theorem q0_1228 : z_m0.2.2.2.2.2.lookup 1228 = some (.iload_n 3, 1) := by decide +kernel
theorem q0_1229 : z_m0.2.2.2.2.2.lookup 1229 = some (.iconst 1, 1) := by decide +kernel
theorem q0_1230 : z_m0.2.2.2.2.2.lookup 1230 = some (.iadd, 1) := by decide +kernel
theorem q0_1231 : z_m0.2.2.2.2.2.lookup 1231 = some (.iaload, 1) := by decide +kernel
theorem q0_1232 : z_m0.2.2.2.2.2.lookup 1232 = some (.aload_n 0, 1) := by decide +kernel
theorem q0_1233 : z_m0.2.2.2.2.2.lookup 1233 = some (.iload_n 3, 1) := by decide +kernel
theorem q0_1234 : z_m0.2.2.2.2.2.lookup 1234 = some (.iconst 2, 1) := by decide +kernel
theorem q0_1235 : z_m0.2.2.2.2.2.lookup 1235 = some (.iadd, 1) := by decide +kernel
theorem q0_1236 : z_m0.2.2.2.2.2.lookup 1236 = some (.iaload, 1) := by decide +kernel
theorem q0_1237 : z_m0.2.2.2.2.2.lookup 1237 = some (.invokevirtual 138, 3) := by decide +kernel
theorem q0_1240 : z_m0.2.2.2.2.2.lookup 1240 = some (.aload_n 2, 1) := by decide +kernel
theorem q0_1241 : z_m0.2.2.2.2.2.lookup 1241 = some (.aload_n 0, 1) := by decide +kernel
theorem q0_1242 : z_m0.2.2.2.2.2.lookup 1242 = some (.iload_n 3, 1) := by decide +kernel
theorem q0_1243 : z_m0.2.2.2.2.2.lookup 1243 = some (.iconst 1, 1) := by decide +kernel
theorem q0_1244 : z_m0.2.2.2.2.2.lookup 1244 = some (.iadd, 1) := by decide +kernel
theorem q0_1245 : z_m0.2.2.2.2.2.lookup 1245 = some (.iaload, 1) := by decide +kernel
theorem q0_1246 : z_m0.2.2.2.2.2.lookup 1246 = some (.aload_n 0, 1) := by decide +kernel
theorem q0_1247 : z_m0.2.2.2.2.2.lookup 1247 = some (.iload_n 3, 1) := by decide +kernel
theorem q0_1248 : z_m0.2.2.2.2.2.lookup 1248 = some (.iconst 2, 1) := by decide +kernel
theorem q0_1249 : z_m0.2.2.2.2.2.lookup 1249 = some (.iadd, 1) := by decide +kernel
theorem q0_1250 : z_m0.2.2.2.2.2.lookup 1250 = some (.iaload, 1) := by decide +kernel
theorem q0_1251 : z_m0.2.2.2.2.2.lookup 1251 = some (.invokevirtual 141, 3) := by decide +kernel
theorem q0_1254 : z_m0.2.2.2.2.2.lookup 1254 = some (.if_icmp .eq 342, 3) := by decide +kernel
theorem q0_1257 : z_m0.2.2.2.2.2.lookup 1257 = some (.iconst 0, 1) := by decide +kernel
theorem q0_1258 : z_m0.2.2.2.2.2.lookup 1258 = some (.ireturn, 1) := by decide +kernel
theorem q0_1259 : z_m0.2.2.2.2.2.lookup 1259 = some (.aload_n 1, 1) := by decide +kernel
theorem q0_1260 : z_m0.2.2.2.2.2.lookup 1260 = some (.aload_n 0, 1) := by decide +kernel
theorem q0_1261 : z_m0.2.2.2.2.2.lookup 1261 = some (.iload_n 3, 1) := by decide +kernel
theorem q0_1262 : z_m0.2.2.2.2.2.lookup 1262 = some (.iconst 1, 1) := by decide +kernel
theorem q0_1263 : z_m0.2.2.2.2.2.lookup 1263 = some (.iadd, 1) := by decide +kernel
theorem q0_1264 : z_m0.2.2.2.2.2.lookup 1264 = some (.iaload, 1) := by decide +kernel
theorem q0_1265 : z_m0.2.2.2.2.2.lookup 1265 = some (.aload_n 0, 1) := by decide +kernel
theorem q0_1266 : z_m0.2.2.2.2.2.lookup 1266 = some (.iload_n 3, 1) := by decide +kernel
theorem q0_1267 : z_m0.2.2.2.2.2.lookup 1267 = some (.iconst 2, 1) := by decide +kernel
theorem q0_1268 : z_m0.2.2.2.2.2.lookup 1268 = some (.iadd, 1) := by decide +kernel
theorem q0_1269 : z_m0.2.2.2.2.2.lookup 1269 = some (.iaload, 1) := by decide +kernel
theorem q0_1270 : z_m0.2.2.2.2.2.lookup 1270 = some (.invokevirtual 142, 3) := by decide +kernel
theorem q0_1273 : z_m0.2.2.2.2.2.lookup 1273 = some (.aload_n 2, 1) := by decide +kernel
theorem q0_1274 : z_m0.2.2.2.2.2.lookup 1274 = some (.aload_n 0, 1) := by decide +kernel
theorem q0_1275 : z_m0.2.2.2.2.2.lookup 1275 = some (.iload_n 3, 1) := by decide +kernel
theorem q0_1276 : z_m0.2.2.2.2.2.lookup 1276 = some (.iconst 1, 1) := by decide +kernel
theorem q0_1277 : z_m0.2.2.2.2.2.lookup 1277 = some (.iadd, 1) := by decide +kernel
theorem q0_1278 : z_m0.2.2.2.2.2.lookup 1278 = some (.iaload, 1) := by decide +kernel
theorem q0_1279 : z_m0.2.2.2.2.2.lookup 1279 = some (.aload_n 0, 1) := by decide +kernel
theorem q0_1280 : z_m0.2.2.2.2.2.lookup 1280 = some (.iload_n 3, 1) := by decide +kernel
theorem q0_1281 : z_m0.2.2.2.2.2.lookup 1281 = some (.iconst 2, 1) := by decide +kernel
theorem q0_1282 : z_m0.2.2.2.2.2.lookup 1282 = some (.iadd, 1) := by decide +kernel
theorem q0_1283 : z_m0.2.2.2.2.2.lookup 1283 = some (.iaload, 1) := by decide +kernel
theorem q0_1284 : z_m0.2.2.2.2.2.lookup 1284 = some (.invokevirtual 145, 3) := by decide +kernel
theorem q0_1287 : z_m0.2.2.2.2.2.lookup 1287 = some (.if_icmp .eq 309, 3) := by decide +kernel
theorem q0_1290 : z_m0.2.2.2.2.2.lookup 1290 = some (.iconst 0, 1) := by decide +kernel
theorem q0_1291 : z_m0.2.2.2.2.2.lookup 1291 = some (.ireturn, 1) := by decide +kernel
theorem q0_1292 : z_m0.2.2.2.2.2.lookup 1292 = some (.aload_n 1, 1) := by decide +kernel
theorem q0_1293 : z_m0.2.2.2.2.2.lookup 1293 = some (.aload_n 0, 1) := by decide +kernel
theorem q0_1294 : z_m0.2.2.2.2.2.lookup 1294 = some (.iload_n 3, 1) := by decide +kernel
theorem q0_1295 : z_m0.2.2.2.2.2.lookup 1295 = some (.iconst 1, 1) := by decide +kernel
theorem q0_1296 : z_m0.2.2.2.2.2.lookup 1296 = some (.iadd, 1) := by decide +kernel
theorem q0_1297 : z_m0.2.2.2.2.2.lookup 1297 = some (.iaload, 1) := by decide +kernel
theorem q0_1298 : z_m0.2.2.2.2.2.lookup 1298 = some (.invokevirtual 146, 3) := by decide +kernel
theorem q0_1301 : z_m0.2.2.2.2.2.lookup 1301 = some (.aload_n 2, 1) := by decide +kernel
theorem q0_1302 : z_m0.2.2.2.2.2.lookup 1302 = some (.aload_n 0, 1) := by decide +kernel
theorem q0_1303 : z_m0.2.2.2.2.2.lookup 1303 = some (.iload_n 3, 1) := by decide +kernel
theorem q0_1304 : z_m0.2.2.2.2.2.lookup 1304 = some (.iconst 1, 1) := by decide +kernel
theorem q0_1305 : z_m0.2.2.2.2.2.lookup 1305 = some (.iadd, 1) := by decide +kernel
theorem q0_1306 : z_m0.2.2.2.2.2.lookup 1306 = some (.iaload, 1) := by decide +kernel
theorem q0_1307 : z_m0.2.2.2.2.2.lookup 1307 = some (.invokevirtual 149, 3) := by decide +kernel
theorem q0_1310 : z_m0.2.2.2.2.2.lookup 1310 = some (.lcmp, 1) := by decide +kernel
theorem q0_1311 : z_m0.2.2.2.2.2.lookup 1311 = some (.ifCond .eq 285, 3) := by decide +kernel
theorem q0_1314 : z_m0.2.2.2.2.2.lookup 1314 = some (.iconst 0, 1) := by decide +kernel
theorem q0_1315 : z_m0.2.2.2.2.2.lookup 1315 = some (.ireturn, 1) := by decide +kernel
theorem q0_1316 : z_m0.2.2.2.2.2.lookup 1316 = some (.aload_n 1, 1) := by decide +kernel
theorem q0_1317 : z_m0.2.2.2.2.2.lookup 1317 = some (.aload_n 0, 1) := by decide +kernel
theorem q0_1318 : z_m0.2.2.2.2.2.lookup 1318 = some (.iload_n 3, 1) := by decide +kernel
theorem q0_1319 : z_m0.2.2.2.2.2.lookup 1319 = some (.iconst 1, 1) := by decide +kernel
theorem q0_1320 : z_m0.2.2.2.2.2.lookup 1320 = some (.iadd, 1) := by decide +kernel
theorem q0_1321 : z_m0.2.2.2.2.2.lookup 1321 = some (.iaload, 1) := by decide +kernel
theorem q0_1322 : z_m0.2.2.2.2.2.lookup 1322 = some (.invokevirtual 150, 3) := by decide +kernel
theorem q0_1325 : z_m0.2.2.2.2.2.lookup 1325 = some (.aload_n 2, 1) := by decide +kernel
theorem q0_1326 : z_m0.2.2.2.2.2.lookup 1326 = some (.aload_n 0, 1) := by decide +kernel
theorem q0_1327 : z_m0.2.2.2.2.2.lookup 1327 = some (.iload_n 3, 1) := by decide +kernel
theorem q0_1328 : z_m0.2.2.2.2.2.lookup 1328 = some (.iconst 1, 1) := by decide +kernel
theorem q0_1329 : z_m0.2.2.2.2.2.lookup 1329 = some (.iadd, 1) := by decide +kernel
theorem q0_1330 : z_m0.2.2.2.2.2.lookup 1330 = some (.iaload, 1) := by decide +kernel
theorem q0_1331 : z_m0.2.2.2.2.2.lookup 1331 = some (.invokevirtual 153, 3) := by decide +kernel
theorem q0_1334 : z_m0.2.2.2.2.2.lookup 1334 = some (.if_icmp .eq 262, 3) := by decide +kernel
theorem q0_1337 : z_m0.2.2.2.2.2.lookup 1337 = some (.iconst 0, 1) := by decide +kernel
theorem q0_1338 : z_m0.2.2.2.2.2.lookup 1338 = some (.ireturn, 1) := by decide +kernel
theorem q0_1339 : z_m0.2.2.2.2.2.lookup 1339 = some (.aload_n 1, 1) := by decide +kernel
theorem q0_1340 : z_m0.2.2.2.2.2.lookup 1340 = some (.aload_n 0, 1) := by decide +kernel
theorem q0_1341 : z_m0.2.2.2.2.2.lookup 1341 = some (.iload_n 3, 1) := by decide +kernel
theorem q0_1342 : z_m0.2.2.2.2.2.lookup 1342 = some (.iconst 1, 1) := by decide +kernel
theorem q0_1343 : z_m0.2.2.2.2.2.lookup 1343 = some (.iadd, 1) := by decide +kernel
theorem q0_1344 : z_m0.2.2.2.2.2.lookup 1344 = some (.iaload, 1) := by decide +kernel
theorem q0_1345 : z_m0.2.2.2.2.2.lookup 1345 = some (.aload_n 0, 1) := by decide +kernel
theorem q0_1346 : z_m0.2.2.2.2.2.lookup 1346 = some (.iload_n 3, 1) := by decide +kernel
theorem q0_1347 : z_m0.2.2.2.2.2.lookup 1347 = some (.iconst 2, 1) := by decide +kernel
theorem q0_1348 : z_m0.2.2.2.2.2.lookup 1348 = some (.iadd, 1) := by decide +kernel
theorem q0_1349 : z_m0.2.2.2.2.2.lookup 1349 = some (.iaload, 1) := by decide +kernel
theorem q0_1350 : z_m0.2.2.2.2.2.lookup 1350 = some (.aload_n 0, 1) := by decide +kernel
theorem q0_1351 : z_m0.2.2.2.2.2.lookup 1351 = some (.iload_n 3, 1) := by decide +kernel
theorem q0_1352 : z_m0.2.2.2.2.2.lookup 1352 = some (.iconst 3, 1) := by decide +kernel
theorem q0_1353 : z_m0.2.2.2.2.2.lookup 1353 = some (.iadd, 1) := by decide +kernel
theorem q0_1354 : z_m0.2.2.2.2.2.lookup 1354 = some (.iaload, 1) := by decide +kernel
theorem q0_1355 : z_m0.2.2.2.2.2.lookup 1355 = some (.invokevirtual 154, 3) := by decide +kernel
theorem q0_1358 : z_m0.2.2.2.2.2.lookup 1358 = some (.aload_n 2, 1) := by decide +kernel
theorem q0_1359 : z_m0.2.2.2.2.2.lookup 1359 = some (.aload_n 0, 1) := by decide +kernel
theorem q0_1360 : z_m0.2.2.2.2.2.lookup 1360 = some (.iload_n 3, 1) := by decide +kernel
theorem q0_1361 : z_m0.2.2.2.2.2.lookup 1361 = some (.iconst 1, 1) := by decide +kernel
theorem q0_1362 : z_m0.2.2.2.2.2.lookup 1362 = some (.iadd, 1) := by decide +kernel
theorem q0_1363 : z_m0.2.2.2.2.2.lookup 1363 = some (.iaload, 1) := by decide +kernel
theorem q0_1364 : z_m0.2.2.2.2.2.lookup 1364 = some (.aload_n 0, 1) := by decide +kernel
theorem q0_1365 : z_m0.2.2.2.2.2.lookup 1365 = some (.iload_n 3, 1) := by decide +kernel
theorem q0_1366 : z_m0.2.2.2.2.2.lookup 1366 = some (.iconst 2, 1) := by decide +kernel
theorem q0_1367 : z_m0.2.2.2.2.2.lookup 1367 = some (.iadd, 1) := by decide +kernel
theorem q0_1368 : z_m0.2.2.2.2.2.lookup 1368 = some (.iaload, 1) := by decide +kernel
theorem q0_1369 : z_m0.2.2.2.2.2.lookup 1369 = some (.aload_n 0, 1) := by decide +kernel
theorem q0_1370 : z_m0.2.2.2.2.2.lookup 1370 = some (.iload_n 3, 1) := by decide +kernel
theorem q0_1371 : z_m0.2.2.2.2.2.lookup 1371 = some (.iconst 3, 1) := by decide +kernel
theorem q0_1372 : z_m0.2.2.2.2.2.lookup 1372 = some (.iadd, 1) := by decide +kernel
theorem q0_1373 : z_m0.2.2.2.2.2.lookup 1373 = some (.iaload, 1) := by decide +kernel
theorem q0_1374 : z_m0.2.2.2.2.2.lookup 1374 = some (.invokevirtual 157, 3) := by decide +kernel
theorem q0_1377 : z_m0.2.2.2.2.2.lookup 1377 = some (.if_icmp .eq 219, 3) := by decide +kernel
theorem q0_1380 : z_m0.2.2.2.2.2.lookup 1380 = some (.iconst 0, 1) := by decide +kernel
theorem q0_1381 : z_m0.2.2.2.2.2.lookup 1381 = some (.ireturn, 1) := by decide +kernel
theorem q0_1382 : z_m0.2.2.2.2.2.lookup 1382 = some (.aload_n 1, 1) := by decide +kernel
theorem q0_1383 : z_m0.2.2.2.2.2.lookup 1383 = some (.aload_n 0, 1) := by decide +kernel
theorem q0_1384 : z_m0.2.2.2.2.2.lookup 1384 = some (.iload_n 3, 1) := by decide +kernel
theorem q0_1385 : z_m0.2.2.2.2.2.lookup 1385 = some (.iconst 1, 1) := by decide +kernel
theorem q0_1386 : z_m0.2.2.2.2.2.lookup 1386 = some (.iadd, 1) := by decide +kernel
theorem q0_1387 : z_m0.2.2.2.2.2.lookup 1387 = some (.iaload, 1) := by decide +kernel
theorem q0_1388 : z_m0.2.2.2.2.2.lookup 1388 = some (.aload_n 0, 1) := by decide +kernel
theorem q0_1389 : z_m0.2.2.2.2.2.lookup 1389 = some (.iload_n 3, 1) := by decide +kernel
theorem q0_1390 : z_m0.2.2.2.2.2.lookup 1390 = some (.iconst 2, 1) := by decide +kernel
theorem q0_1391 : z_m0.2.2.2.2.2.lookup 1391 = some (.iadd, 1) := by decide +kernel
theorem q0_1392 : z_m0.2.2.2.2.2.lookup 1392 = some (.iaload, 1) := by decide +kernel
theorem q0_1393 : z_m0.2.2.2.2.2.lookup 1393 = some (.aload_n 0, 1) := by decide +kernel
theorem q0_1394 : z_m0.2.2.2.2.2.lookup 1394 = some (.iload_n 3, 1) := by decide +kernel
theorem q0_1395 : z_m0.2.2.2.2.2.lookup 1395 = some (.iconst 3, 1) := by decide +kernel
theorem q0_1396 : z_m0.2.2.2.2.2.lookup 1396 = some (.iadd, 1) := by decide +kernel
theorem q0_1397 : z_m0.2.2.2.2.2.lookup 1397 = some (.iaload, 1) := by decide +kernel
theorem q0_1398 : z_m0.2.2.2.2.2.lookup 1398 = some (.invokevirtual 158, 3) := by decide +kernel
theorem q0_1401 : z_m0.2.2.2.2.2.lookup 1401 = some (.aload_n 2, 1) := by decide +kernel
theorem q0_1402 : z_m0.2.2.2.2.2.lookup 1402 = some (.aload_n 0, 1) := by decide +kernel
theorem q0_1403 : z_m0.2.2.2.2.2.lookup 1403 = some (.iload_n 3, 1) := by decide +kernel
theorem q0_1404 : z_m0.2.2.2.2.2.lookup 1404 = some (.iconst 1, 1) := by decide +kernel
theorem q0_1405 : z_m0.2.2.2.2.2.lookup 1405 = some (.iadd, 1) := by decide +kernel
theorem q0_1406 : z_m0.2.2.2.2.2.lookup 1406 = some (.iaload, 1) := by decide +kernel
theorem q0_1407 : z_m0.2.2.2.2.2.lookup 1407 = some (.aload_n 0, 1) := by decide +kernel
theorem q0_1408 : z_m0.2.2.2.2.2.lookup 1408 = some (.iload_n 3, 1) := by decide +kernel
theorem q0_1409 : z_m0.2.2.2.2.2.lookup 1409 = some (.iconst 2, 1) := by decide +kernel
theorem q0_1410 : z_m0.2.2.2.2.2.lookup 1410 = some (.iadd, 1) := by decide +kernel
theorem q0_1411 : z_m0.2.2.2.2.2.lookup 1411 = some (.iaload, 1) := by decide +kernel
theorem q0_1412 : z_m0.2.2.2.2.2.lookup 1412 = some (.aload_n 0, 1) := by decide +kernel
theorem q0_1413 : z_m0.2.2.2.2.2.lookup 1413 = some (.iload_n 3, 1) := by decide +kernel
theorem q0_1414 : z_m0.2.2.2.2.2.lookup 1414 = some (.iconst 3, 1) := by decide +kernel
theorem q0_1415 : z_m0.2.2.2.2.2.lookup 1415 = some (.iadd, 1) := by decide +kernel
theorem q0_1416 : z_m0.2.2.2.2.2.lookup 1416 = some (.iaload, 1) := by decide +kernel
theorem q0_1417 : z_m0.2.2.2.2.2.lookup 1417 = some (.invokevirtual 161, 3) := by decide +kernel
theorem q0_1420 : z_m0.2.2.2.2.2.lookup 1420 = some (.if_icmp .eq 176, 3) := by decide +kernel
theorem q0_1423 : z_m0.2.2.2.2.2.lookup 1423 = some (.iconst 0, 1) := by decide +kernel
theorem q0_1424 : z_m0.2.2.2.2.2.lookup 1424 = some (.ireturn, 1) := by decide +kernel
theorem q0_1425 : z_m0.2.2.2.2.2.lookup 1425 = some (.aload_n 1, 1) := by decide +kernel
theorem q0_1426 : z_m0.2.2.2.2.2.lookup 1426 = some (.aload_n 0, 1) := by decide +kernel
theorem q0_1427 : z_m0.2.2.2.2.2.lookup 1427 = some (.iload_n 3, 1) := by decide +kernel
theorem q0_1428 : z_m0.2.2.2.2.2.lookup 1428 = some (.iconst 1, 1) := by decide +kernel
theorem q0_1429 : z_m0.2.2.2.2.2.lookup 1429 = some (.iadd, 1) := by decide +kernel
theorem q0_1430 : z_m0.2.2.2.2.2.lookup 1430 = some (.iaload, 1) := by decide +kernel
theorem q0_1431 : z_m0.2.2.2.2.2.lookup 1431 = some (.aload_n 0, 1) := by decide +kernel
theorem q0_1432 : z_m0.2.2.2.2.2.lookup 1432 = some (.iload_n 3, 1) := by decide +kernel
theorem q0_1433 : z_m0.2.2.2.2.2.lookup 1433 = some (.iconst 2, 1) := by decide +kernel
theorem q0_1434 : z_m0.2.2.2.2.2.lookup 1434 = some (.iadd, 1) := by decide +kernel
theorem q0_1435 : z_m0.2.2.2.2.2.lookup 1435 = some (.iaload, 1) := by decide +kernel
theorem q0_1436 : z_m0.2.2.2.2.2.lookup 1436 = some (.aload_n 0, 1) := by decide +kernel
theorem q0_1437 : z_m0.2.2.2.2.2.lookup 1437 = some (.iload_n 3, 1) := by decide +kernel
theorem q0_1438 : z_m0.2.2.2.2.2.lookup 1438 = some (.iconst 3, 1) := by decide +kernel
theorem q0_1439 : z_m0.2.2.2.2.2.lookup 1439 = some (.iadd, 1) := by decide +kernel
theorem q0_1440 : z_m0.2.2.2.2.2.lookup 1440 = some (.iaload, 1) := by decide +kernel
theorem q0_1441 : z_m0.2.2.2.2.2.lookup 1441 = some (.aload_n 0, 1) := by decide +kernel
theorem q0_1442 : z_m0.2.2.2.2.2.lookup 1442 = some (.iload_n 3, 1) := by decide +kernel
theorem q0_1443 : z_m0.2.2.2.2.2.lookup 1443 = some (.iconst 4, 1) := by decide +kernel
theorem q0_1444 : z_m0.2.2.2.2.2.lookup 1444 = some (.iadd, 1) := by decide +kernel
theorem q0_1445 : z_m0.2.2.2.2.2.lookup 1445 = some (.iaload, 1) := by decide +kernel
theorem q0_1446 : z_m0.2.2.2.2.2.lookup 1446 = some (.aload_n 0, 1) := by decide +kernel
theorem q0_1447 : z_m0.2.2.2.2.2.lookup 1447 = some (.iload_n 3, 1) := by decide +kernel
theorem q0_1448 : z_m0.2.2.2.2.2.lookup 1448 = some (.iconst 5, 1) := by decide +kernel
theorem q0_1449 : z_m0.2.2.2.2.2.lookup 1449 = some (.iadd, 1) := by decide +kernel
theorem q0_1450 : z_m0.2.2.2.2.2.lookup 1450 = some (.iaload, 1) := by decide +kernel
theorem q0_1451 : z_m0.2.2.2.2.2.lookup 1451 = some (.invokevirtual 162, 3) := by decide +kernel
theorem q0_1454 : z_m0.2.2.2.2.2.lookup 1454 = some (.aload_n 2, 1) := by decide +kernel
theorem q0_1455 : z_m0.2.2.2.2.2.lookup 1455 = some (.aload_n 0, 1) := by decide +kernel
theorem q0_1456 : z_m0.2.2.2.2.2.lookup 1456 = some (.iload_n 3, 1) := by decide +kernel
theorem q0_1457 : z_m0.2.2.2.2.2.lookup 1457 = some (.iconst 1, 1) := by decide +kernel
theorem q0_1458 : z_m0.2.2.2.2.2.lookup 1458 = some (.iadd, 1) := by decide +kernel
theorem q0_1459 : z_m0.2.2.2.2.2.lookup 1459 = some (.iaload, 1) := by decide +kernel
theorem q0_1460 : z_m0.2.2.2.2.2.lookup 1460 = some (.aload_n 0, 1) := by decide +kernel
theorem q0_1461 : z_m0.2.2.2.2.2.lookup 1461 = some (.iload_n 3, 1) := by decide +kernel
theorem q0_1462 : z_m0.2.2.2.2.2.lookup 1462 = some (.iconst 2, 1) := by decide +kernel
theorem q0_1463 : z_m0.2.2.2.2.2.lookup 1463 = some (.iadd, 1) := by decide +kernel
theorem q0_1464 : z_m0.2.2.2.2.2.lookup 1464 = some (.iaload, 1) := by decide +kernel
theorem q0_1465 : z_m0.2.2.2.2.2.lookup 1465 = some (.aload_n 0, 1) := by decide +kernel
theorem q0_1466 : z_m0.2.2.2.2.2.lookup 1466 = some (.iload_n 3, 1) := by decide +kernel
theorem q0_1467 : z_m0.2.2.2.2.2.lookup 1467 = some (.iconst 3, 1) := by decide +kernel
theorem q0_1468 : z_m0.2.2.2.2.2.lookup 1468 = some (.iadd, 1) := by decide +kernel
theorem q0_1469 : z_m0.2.2.2.2.2.lookup 1469 = some (.iaload, 1) := by decide +kernel
theorem q0_1470 : z_m0.2.2.2.2.2.lookup 1470 = some (.aload_n 0, 1) := by decide +kernel
theorem q0_1471 : z_m0.2.2.2.2.2.lookup 1471 = some (.iload_n 3, 1) := by decide +kernel
theorem q0_1472 : z_m0.2.2.2.2.2.lookup 1472 = some (.iconst 4, 1) := by decide +kernel
theorem q0_1473 : z_m0.2.2.2.2.2.lookup 1473 = some (.iadd, 1) := by decide +kernel
theorem q0_1474 : z_m0.2.2.2.2.2.lookup 1474 = some (.iaload, 1) := by decide +kernel
theorem q0_1475 : z_m0.2.2.2.2.2.lookup 1475 = some (.aload_n 0, 1) := by decide +kernel
theorem q0_1476 : z_m0.2.2.2.2.2.lookup 1476 = some (.iload_n 3, 1) := by decide +kernel
theorem q0_1477 : z_m0.2.2.2.2.2.lookup 1477 = some (.iconst 5, 1) := by decide +kernel
theorem q0_1478 : z_m0.2.2.2.2.2.lookup 1478 = some (.iadd, 1) := by decide +kernel
theorem q0_1479 : z_m0.2.2.2.2.2.lookup 1479 = some (.iaload, 1) := by decide +kernel
theorem q0_1480 : z_m0.2.2.2.2.2.lookup 1480 = some (.invokevirtual 166, 3) := by decide +kernel
theorem q0_1483 : z_m0.2.2.2.2.2.lookup 1483 = some (.if_icmp .eq 113, 3) := by decide +kernel
theorem q0_1486 : z_m0.2.2.2.2.2.lookup 1486 = some (.iconst 0, 1) := by decide +kernel
theorem q0_1487 : z_m0.2.2.2.2.2.lookup 1487 = some (.ireturn, 1) := by decide +kernel
theorem q0_1488 : z_m0.2.2.2.2.2.lookup 1488 = some (.aload_n 1, 1) := by decide +kernel
theorem q0_1489 : z_m0.2.2.2.2.2.lookup 1489 = some (.aload_n 0, 1) := by decide +kernel
theorem q0_1490 : z_m0.2.2.2.2.2.lookup 1490 = some (.iload_n 3, 1) := by decide +kernel
theorem q0_1491 : z_m0.2.2.2.2.2.lookup 1491 = some (.iconst 1, 1) := by decide +kernel
theorem q0_1492 : z_m0.2.2.2.2.2.lookup 1492 = some (.iadd, 1) := by decide +kernel
theorem q0_1493 : z_m0.2.2.2.2.2.lookup 1493 = some (.iaload, 1) := by decide +kernel
theorem q0_1494 : z_m0.2.2.2.2.2.lookup 1494 = some (.aload_n 0, 1) := by decide +kernel
theorem q0_1495 : z_m0.2.2.2.2.2.lookup 1495 = some (.iload_n 3, 1) := by decide +kernel
theorem q0_1496 : z_m0.2.2.2.2.2.lookup 1496 = some (.iconst 2, 1) := by decide +kernel
theorem q0_1497 : z_m0.2.2.2.2.2.lookup 1497 = some (.iadd, 1) := by decide +kernel
theorem q0_1498 : z_m0.2.2.2.2.2.lookup 1498 = some (.iaload, 1) := by decide +kernel
theorem q0_1499 : z_m0.2.2.2.2.2.lookup 1499 = some (.aload_n 0, 1) := by decide +kernel
theorem q0_1500 : z_m0.2.2.2.2.2.lookup 1500 = some (.iload_n 3, 1) := by decide +kernel
theorem q0_1501 : z_m0.2.2.2.2.2.lookup 1501 = some (.iconst 3, 1) := by decide +kernel
theorem q0_1502 : z_m0.2.2.2.2.2.lookup 1502 = some (.iadd, 1) := by decide +kernel
theorem q0_1503 : z_m0.2.2.2.2.2.lookup 1503 = some (.iaload, 1) := by decide +kernel
theorem q0_1504 : z_m0.2.2.2.2.2.lookup 1504 = some (.aload_n 0, 1) := by decide +kernel
theorem q0_1505 : z_m0.2.2.2.2.2.lookup 1505 = some (.iload_n 3, 1) := by decide +kernel
theorem q0_1506 : z_m0.2.2.2.2.2.lookup 1506 = some (.iconst 4, 1) := by decide +kernel
theorem q0_1507 : z_m0.2.2.2.2.2.lookup 1507 = some (.iadd, 1) := by decide +kernel
theorem q0_1508 : z_m0.2.2.2.2.2.lookup 1508 = some (.iaload, 1) := by decide +kernel
theorem q0_1509 : z_m0.2.2.2.2.2.lookup 1509 = some (.aload_n 0, 1) := by decide +kernel
theorem q0_1510 : z_m0.2.2.2.2.2.lookup 1510 = some (.iload_n 3, 1) := by decide +kernel
theorem q0_1511 : z_m0.2.2.2.2.2.lookup 1511 = some (.iconst 5, 1) := by decide +kernel
theorem q0_1512 : z_m0.2.2.2.2.2.lookup 1512 = some (.iadd, 1) := by decide +kernel
theorem q0_1513 : z_m0.2.2.2.2.2.lookup 1513 = some (.iaload, 1) := by decide +kernel
theorem q0_1514 : z_m0.2.2.2.2.2.lookup 1514 = some (.aload_n 0, 1) := by decide +kernel
theorem q0_1515 : z_m0.2.2.2.2.2.lookup 1515 = some (.iload_n 3, 1) := by decide +kernel
theorem q0_1516 : z_m0.2.2.2.2.2.lookup 1516 = some (.bipush 6, 2) := by decide +kernel
theorem q0_1518 : z_m0.2.2.2.2.2.lookup 1518 = some (.iadd, 1) := by decide +kernel
theorem q0_1519 : z_m0.2.2.2.2.2.lookup 1519 = some (.iaload, 1) := by decide +kernel
theorem q0_1520 : z_m0.2.2.2.2.2.lookup 1520 = some (.invokevirtual 167, 3) := by decide +kernel
theorem q0_1523 : z_m0.2.2.2.2.2.lookup 1523 = some (.aload_n 2, 1) := by decide +kernel
theorem q0_1524 : z_m0.2.2.2.2.2.lookup 1524 = some (.aload_n 0, 1) := by decide +kernel
theorem q0_1525 : z_m0.2.2.2.2.2.lookup 1525 = some (.iload_n 3, 1) := by decide +kernel
theorem q0_1526 : z_m0.2.2.2.2.2.lookup 1526 = some (.iconst 1, 1) := by decide +kernel
theorem q0_1527 : z_m0.2.2.2.2.2.lookup 1527 = some (.iadd, 1) := by decide +kernel
theorem q0_1528 : z_m0.2.2.2.2.2.lookup 1528 = some (.iaload, 1) := by decide +kernel
theorem q0_1529 : z_m0.2.2.2.2.2.lookup 1529 = some (.aload_n 0, 1) := by decide +kernel
theorem q0_1530 : z_m0.2.2.2.2.2.lookup 1530 = some (.iload_n 3, 1) := by decide +kernel
theorem q0_1531 : z_m0.2.2.2.2.2.lookup 1531 = some (.iconst 2, 1) := by decide +kernel
theorem q0_1532 : z_m0.2.2.2.2.2.lookup 1532 = some (.iadd, 1) := by decide +kernel
theorem q0_1533 : z_m0.2.2.2.2.2.lookup 1533 = some (.iaload, 1) := by decide +kernel
theorem q0_1534 : z_m0.2.2.2.2.2.lookup 1534 = some (.aload_n 0, 1) := by decide +kernel
theorem q0_1535 : z_m0.2.2.2.2.2.lookup 1535 = some (.iload_n 3, 1) := by decide +kernel
theorem q0_1536 : z_m0.2.2.2.2.2.lookup 1536 = some (.iconst 3, 1) := by decide +kernel
theorem q0_1537 : z_m0.2.2.2.2.2.lookup 1537 = some (.iadd, 1) := by decide +kernel
theorem q0_1538 : z_m0.2.2.2.2.2.lookup 1538 = some (.iaload, 1) := by decide +kernel
theorem q0_1539 : z_m0.2.2.2.2.2.lookup 1539 = some (.aload_n 0, 1) := by decide +kernel
theorem q0_1540 : z_m0.2.2.2.2.2.lookup 1540 = some (.iload_n 3, 1) := by decide +kernel
theorem q0_1541 : z_m0.2.2.2.2.2.lookup 1541 = some (.iconst 4, 1) := by decide +kernel
theorem q0_1542 : z_m0.2.2.2.2.2.lookup 1542 = some (.iadd, 1) := by decide +kernel
theorem q0_1543 : z_m0.2.2.2.2.2.lookup 1543 = some (.iaload, 1) := by decide +kernel
theorem q0_1544 : z_m0.2.2.2.2.2.lookup 1544 = some (.aload_n 0, 1) := by decide +kernel
theorem q0_1545 : z_m0.2.2.2.2.2.lookup 1545 = some (.iload_n 3, 1) := by decide +kernel
theorem q0_1546 : z_m0.2.2.2.2.2.lookup 1546 = some (.iconst 5, 1) := by decide +kernel
theorem q0_1547 : z_m0.2.2.2.2.2.lookup 1547 = some (.iadd, 1) := by decide +kernel
theorem q0_1548 : z_m0.2.2.2.2.2.lookup 1548 = some (.iaload, 1) := by decide +kernel
theorem q0_1549 : z_m0.2.2.2.2.2.lookup 1549 = some (.aload_n 0, 1) := by decide +kernel
theorem q0_1550 : z_m0.2.2.2.2.2.lookup 1550 = some (.iload_n 3, 1) := by decide +kernel
theorem q0_1551 : z_m0.2.2.2.2.2.lookup 1551 = some (.bipush 6, 2) := by decide +kernel
theorem q0_1553 : z_m0.2.2.2.2.2.lookup 1553 = some (.iadd, 1) := by decide +kernel
theorem q0_1554 : z_m0.2.2.2.2.2.lookup 1554 = some (.iaload, 1) := by decide +kernel
theorem q0_1555 : z_m0.2.2.2.2.2.lookup 1555 = some (.invokevirtual 170, 3) := by decide +kernel
theorem q0_1558 : z_m0.2.2.2.2.2.lookup 1558 = some (.if_icmp .eq 38, 3) := by decide +kernel
theorem q0_1561 : z_m0.2.2.2.2.2.lookup 1561 = some (.iconst 0, 1) := by decide +kernel
theorem q0_1562 : z_m0.2.2.2.2.2.lookup 1562 = some (.ireturn, 1) := by decide +kernel
theorem q0_1563 : z_m0.2.2.2.2.2.lookup 1563 = some (.aload_n 1, 1) := by decide +kernel
theorem q0_1564 : z_m0.2.2.2.2.2.lookup 1564 = some (.aload_n 0, 1) := by decide +kernel
theorem q0_1565 : z_m0.2.2.2.2.2.lookup 1565 = some (.iload_n 3, 1) := by decide +kernel
theorem q0_1566 : z_m0.2.2.2.2.2.lookup 1566 = some (.iconst 1, 1) := by decide +kernel
theorem q0_1567 : z_m0.2.2.2.2.2.lookup 1567 = some (.iadd, 1) := by decide +kernel
theorem q0_1568 : z_m0.2.2.2.2.2.lookup 1568 = some (.iaload, 1) := by decide +kernel
theorem q0_1569 : z_m0.2.2.2.2.2.lookup 1569 = some (.aload_n 0, 1) := by decide +kernel
theorem q0_1570 : z_m0.2.2.2.2.2.lookup 1570 = some (.iload_n 3, 1) := by decide +kernel
theorem q0_1571 : z_m0.2.2.2.2.2.lookup 1571 = some (.iconst 2, 1) := by decide +kernel
theorem q0_1572 : z_m0.2.2.2.2.2.lookup 1572 = some (.iadd, 1) := by decide +kernel
theorem q0_1573 : z_m0.2.2.2.2.2.lookup 1573 = some (.iaload, 1) := by decide +kernel
theorem q0_1574 : z_m0.2.2.2.2.2.lookup 1574 = some (.invokevirtual 171, 3) := by decide +kernel
theorem q0_1577 : z_m0.2.2.2.2.2.lookup 1577 = some (.aload_n 2, 1) := by decide +kernel
theorem q0_1578 : z_m0.2.2.2.2.2.lookup 1578 = some (.aload_n 0, 1) := by decide +kernel
theorem q0_1579 : z_m0.2.2.2.2.2.lookup 1579 = some (.iload_n 3, 1) := by decide +kernel
theorem q0_1580 : z_m0.2.2.2.2.2.lookup 1580 = some (.iconst 1, 1) := by decide +kernel
theorem q0_1581 : z_m0.2.2.2.2.2.lookup 1581 = some (.iadd, 1) := by decide +kernel
theorem q0_1582 : z_m0.2.2.2.2.2.lookup 1582 = some (.iaload, 1) := by decide +kernel
theorem q0_1583 : z_m0.2.2.2.2.2.lookup 1583 = some (.aload_n 0, 1) := by decide +kernel
theorem q0_1584 : z_m0.2.2.2.2.2.lookup 1584 = some (.iload_n 3, 1) := by decide +kernel
theorem q0_1585 : z_m0.2.2.2.2.2.lookup 1585 = some (.iconst 2, 1) := by decide +kernel
theorem q0_1586 : z_m0.2.2.2.2.2.lookup 1586 = some (.iadd, 1) := by decide +kernel
theorem q0_1587 : z_m0.2.2.2.2.2.lookup 1587 = some (.iaload, 1) := by decide +kernel
theorem q0_1588 : z_m0.2.2.2.2.2.lookup 1588 = some (.invokevirtual 174, 3) := by decide +kernel
theorem q0_1591 : z_m0.2.2.2.2.2.lookup 1591 = some (.if_icmp .eq 5, 3) := by decide +kernel
theorem q0_1594 : z_m0.2.2.2.2.2.lookup 1594 = some (.iconst 0, 1) := by decide +kernel
theorem q0_1595 : z_m0.2.2.2.2.2.lookup 1595 = some (.ireturn, 1) := by decide +kernel
theorem q0_1596 : z_m0.2.2.2.2.2.lookup 1596 = some (.iinc 3 7, 3) := by decide +kernel
theorem q0_1599 : z_m0.2.2.2.2.2.lookup 1599 = some (.goto (-1581), 3) := by decide +kernel
theorem q0_1602 : z_m0.2.2.2.2.2.lookup 1602 = some (.iconst 1, 1) := by decide +kernel
theorem q0_1603 : z_m0.2.2.2.2.2.lookup 1603 = some (.ireturn, 1) := by decide +kernel
