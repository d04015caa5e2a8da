theorem dL_988 : decode code 988 = .ok (.iload_n 3, 1) := by decide +kernel
theorem dL_989 : decode code 989 = .ok (.iconst 2, 1) := by decide +kernel
theorem dL_990 : decode code 990 = .ok (.iadd, 1) := by decide +kernel
theorem dL_991 : decode code 991 = .ok (.iaload, 1) := by decide +kernel
theorem dL_992 : decode code 992 = .ok (.invokevirtual 124, 3) := by decide +kernel
theorem dL_995 : decode code 995 = .ok (.if_icmp .eq 740, 3) := by decide +kernel
theorem dL_998 : decode code 998 = .ok (.iconst 0, 1) := by decide +kernel
theorem dL_999 : decode code 999 = .ok (.ireturn, 1) := by decide +kernel
theorem dL_1000 : decode code 1000 = .ok (.aload_n 1, 1) := by decide +kernel
theorem dL_1001 : decode code 1001 = .ok (.aload_n 0, 1) := by decide +kernel
theorem dL_1002 : decode code 1002 = .ok (.iload_n 3, 1) := by decide +kernel
theorem dL_1003 : decode code 1003 = .ok (.iconst 1, 1) := by decide +kernel
theorem dL_1004 : decode code 1004 = .ok (.iadd, 1) := by decide +kernel
theorem dL_1005 : decode code 1005 = .ok (.iaload, 1) := by decide +kernel
theorem dL_1006 : decode code 1006 = .ok (.invokevirtual 125, 3) := by decide +kernel
theorem dL_1009 : decode code 1009 = .ok (.aload_n 2, 1) := by decide +kernel
theorem dL_1010 : decode code 1010 = .ok (.aload_n 0, 1) := by decide +kernel
theorem dL_1011 : decode code 1011 = .ok (.iload_n 3, 1) := by decide +kernel
theorem dL_1012 : decode code 1012 = .ok (.iconst 1, 1) := by decide +kernel
theorem dL_1013 : decode code 1013 = .ok (.iadd, 1) := by decide +kernel
theorem dL_1014 : decode code 1014 = .ok (.iaload, 1) := by decide +kernel
theorem dL_1015 : decode code 1015 = .ok (.invokevirtual 128, 3) := by decide +kernel
theorem dL_1018 : decode code 1018 = .ok (.if_icmp .eq 717, 3) := by decide +kernel
theorem dL_1021 : decode code 1021 = .ok (.iconst 0, 1) := by decide +kernel
theorem dL_1022 : decode code 1022 = .ok (.ireturn, 1) := by decide +kernel
theorem dL_1023 : decode code 1023 = .ok (.aload_n 1, 1) := by decide +kernel
theorem dL_1024 : decode code 1024 = .ok (.aload_n 0, 1) := by decide +kernel
theorem dL_1025 : decode code 1025 = .ok (.iload_n 3, 1) := by decide +kernel
theorem dL_1026 : decode code 1026 = .ok (.iconst 1, 1) := by decide +kernel
theorem dL_1027 : decode code 1027 = .ok (.iadd, 1) := by decide +kernel
theorem dL_1028 : decode code 1028 = .ok (.iaload, 1) := by decide +kernel
theorem dL_1029 : decode code 1029 = .ok (.invokevirtual 129, 3) := by decide +kernel
theorem dL_1032 : decode code 1032 = .ok (.aload_n 2, 1) := by decide +kernel
theorem dL_1033 : decode code 1033 = .ok (.aload_n 0, 1) := by decide +kernel
theorem dL_1034 : decode code 1034 = .ok (.iload_n 3, 1) := by decide +kernel
theorem dL_1035 : decode code 1035 = .ok (.iconst 1, 1) := by decide +kernel
theorem dL_1036 : decode code 1036 = .ok (.iadd, 1) := by decide +kernel
theorem dL_1037 : decode code 1037 = .ok (.iaload, 1) := by decide +kernel
theorem dL_1038 : decode code 1038 = .ok (.invokevirtual 132, 3) := by decide +kernel
theorem dL_1041 : decode code 1041 = .ok (.if_icmp .eq 694, 3) := by decide +kernel
theorem dL_1044 : decode code 1044 = .ok (.iconst 0, 1) := by decide +kernel
theorem dL_1045 : decode code 1045 = .ok (.ireturn, 1) := by decide +kernel
theorem dL_1046 : decode code 1046 = .ok (.aload_n 1, 1) := by decide +kernel
theorem dL_1047 : decode code 1047 = .ok (.aload_n 0, 1) := by decide +kernel
theorem dL_1048 : decode code 1048 = .ok (.iload_n 3, 1) := by decide +kernel
theorem dL_1049 : decode code 1049 = .ok (.iconst 1, 1) := by decide +kernel
theorem dL_1050 : decode code 1050 = .ok (.iadd, 1) := by decide +kernel
theorem dL_1051 : decode code 1051 = .ok (.iaload, 1) := by decide +kernel
theorem dL_1052 : decode code 1052 = .ok (.aload_n 0, 1) := by decide +kernel
theorem dL_1053 : decode code 1053 = .ok (.iload_n 3, 1) := by decide +kernel
theorem dL_1054 : decode code 1054 = .ok (.iconst 2, 1) := by decide +kernel
theorem dL_1055 : decode code 1055 = .ok (.iadd, 1) := by decide +kernel
theorem dL_1056 : decode code 1056 = .ok (.iaload, 1) := by decide +kernel
theorem dL_1057 : decode code 1057 = .ok (.aload_n 0, 1) := by decide +kernel
theorem dL_1058 : decode code 1058 = .ok (.iload_n 3, 1) := by decide +kernel
theorem dL_1059 : decode code 1059 = .ok (.iconst 3, 1) := by decide +kernel
theorem dL_1060 : decode code 1060 = .ok (.iadd, 1) := by decide +kernel
theorem dL_1061 : decode code 1061 = .ok (.iaload, 1) := by decide +kernel
theorem dL_1062 : decode code 1062 = .ok (.aload_n 0, 1) := by decide +kernel
theorem dL_1063 : decode code 1063 = .ok (.iload_n 3, 1) := by decide +kernel
theorem dL_1064 : decode code 1064 = .ok (.iconst 4, 1) := by decide +kernel
theorem dL_1065 : decode code 1065 = .ok (.iadd, 1) := by decide +kernel
theorem dL_1066 : decode code 1066 = .ok (.iaload, 1) := by decide +kernel
theorem dL_1067 : decode code 1067 = .ok (.invokevirtual 133, 3) := by decide +kernel
theorem dL_1070 : decode code 1070 = .ok (.aload_n 2, 1) := by decide +kernel
theorem dL_1071 : decode code 1071 = .ok (.aload_n 0, 1) := by decide +kernel
theorem dL_1072 : decode code 1072 = .ok (.iload_n 3, 1) := by decide +kernel
theorem dL_1073 : decode code 1073 = .ok (.iconst 1, 1) := by decide +kernel
theorem dL_1074 : decode code 1074 = .ok (.iadd, 1) := by decide +kernel
theorem dL_1075 : decode code 1075 = .ok (.iaload, 1) := by decide +kernel
theorem dL_1076 : decode code 1076 = .ok (.aload_n 0, 1) := by decide +kernel
theorem dL_1077 : decode code 1077 = .ok (.iload_n 3, 1) := by decide +kernel
theorem dL_1078 : decode code 1078 = .ok (.iconst 2, 1) := by decide +kernel
theorem dL_1079 : decode code 1079 = .ok (.iadd, 1) := by decide +kernel
theorem dL_1080 : decode code 1080 = .ok (.iaload, 1) := by decide +kernel
theorem dL_1081 : decode code 1081 = .ok (.aload_n 0, 1) := by decide +kernel
theorem dL_1082 : decode code 1082 = .ok (.iload_n 3, 1) := by decide +kernel
theorem dL_1083 : decode code 1083 = .ok (.iconst 3, 1) := by decide +kernel
theorem dL_1084 : decode code 1084 = .ok (.iadd, 1) := by decide +kernel
theorem dL_1085 : decode code 1085 = .ok (.iaload, 1) := by decide +kernel
theorem dL_1086 : decode code 1086 = .ok (.aload_n 0, 1) := by decide +kernel
theorem dL_1087 : decode code 1087 = .ok (.iload_n 3, 1) := by decide +kernel
theorem dL_1088 : decode code 1088 = .ok (.iconst 4, 1) := by decide +kernel
theorem dL_1089 : decode code 1089 = .ok (.iadd, 1) := by decide +kernel
theorem dL_1090 : decode code 1090 = .ok (.iaload, 1) := by decide +kernel
theorem dL_1091 : decode code 1091 = .ok (.invokevirtual 136, 3) := by decide +kernel
theorem dL_1094 : decode code 1094 = .ok (.if_icmp .eq 641, 3) := by decide +kernel
theorem dL_1097 : decode code 1097 = .ok (.iconst 0, 1) := by decide +kernel
theorem dL_1098 : decode code 1098 = .ok (.ireturn, 1) := by decide +kernel
theorem dL_1099 : decode code 1099 = .ok (.aload_n 1, 1) := by decide +kernel
theorem dL_1100 : decode code 1100 = .ok (.invokevirtual 137, 3) := by decide +kernel
theorem dL_1103 : decode code 1103 = .ok (.aload_n 2, 1) := by decide +kernel
theorem dL_1104 : decode code 1104 = .ok (.invokevirtual 140, 3) := by decide +kernel
theorem dL_1107 : decode code 1107 = .ok (.if_icmp .eq 628, 3) := by decide +kernel
theorem dL_1110 : decode code 1110 = .ok (.iconst 0, 1) := by decide +kernel
theorem dL_1111 : decode code 1111 = .ok (.ireturn, 1) := by decide +kernel
theorem dL_1112 : decode code 1112 = .ok (.aload_n 1, 1) := by decide +kernel
theorem dL_1113 : decode code 1113 = .ok (.aload_n 0, 1) := by decide +kernel
theorem dL_1114 : decode code 1114 = .ok (.iload_n 3, 1) := by decide +kernel
theorem dL_1115 : decode code 1115 = .ok (.iconst 1, 1) := by decide +kernel
theorem dL_1116 : decode code 1116 = .ok (.iadd, 1) := by decide +kernel
theorem dL_1117 : decode code 1117 = .ok (.iaload, 1) := by decide +kernel
theorem dL_1118 : decode code 1118 = .ok (.invokevirtual 141, 3) := by decide +kernel
theorem dL_1121 : decode code 1121 = .ok (.aload_n 2, 1) := by decide +kernel
theorem dL_1122 : decode code 1122 = .ok (.aload_n 0, 1) := by decide +kernel
theorem dL_1123 : decode code 1123 = .ok (.iload_n 3, 1) := by decide +kernel
theorem dL_1124 : decode code 1124 = .ok (.iconst 1, 1) := by decide +kernel
theorem dL_1125 : decode code 1125 = .ok (.iadd, 1) := by decide +kernel
theorem dL_1126 : decode code 1126 = .ok (.iaload, 1) := by decide +kernel
theorem dL_1127 : decode code 1127 = .ok (.invokevirtual 144, 3) := by decide +kernel
theorem dL_1130 : decode code 1130 = .ok (.if_icmp .eq 605, 3) := by decide +kernel
theorem dL_1133 : decode code 1133 = .ok (.iconst 0, 1) := by decide +kernel
theorem dL_1134 : decode code 1134 = .ok (.ireturn, 1) := by decide +kernel
theorem dL_1135 : decode code 1135 = .ok (.aload_n 1, 1) := by decide +kernel
theorem dL_1136 : decode code 1136 = .ok (.invokevirtual 145, 3) := by decide +kernel
theorem dL_1139 : decode code 1139 = .ok (.aload_n 2, 1) := by decide +kernel
theorem dL_1140 : decode code 1140 = .ok (.invokevirtual 148, 3) := by decide +kernel
theorem dL_1143 : decode code 1143 = .ok (.if_icmp .eq 592, 3) := by decide +kernel
theorem dL_1146 : decode code 1146 = .ok (.iconst 0, 1) := by decide +kernel
theorem dL_1147 : decode code 1147 = .ok (.ireturn, 1) := by decide +kernel
theorem dL_1148 : decode code 1148 = .ok (.aload_n 1, 1) := by decide +kernel
theorem dL_1149 : decode code 1149 = .ok (.aload_n 0, 1) := by decide +kernel
theorem dL_1150 : decode code 1150 = .ok (.iload_n 3, 1) := by decide +kernel
theorem dL_1151 : decode code 1151 = .ok (.iconst 1, 1) := by decide +kernel
theorem dL_1152 : decode code 1152 = .ok (.iadd, 1) := by decide +kernel
theorem dL_1153 : decode code 1153 = .ok (.iaload, 1) := by decide +kernel
theorem dL_1154 : decode code 1154 = .ok (.invokevirtual 149, 3) := by decide +kernel
theorem dL_1157 : decode code 1157 = .ok (.aload_n 2, 1) := by decide +kernel
theorem dL_1158 : decode code 1158 = .ok (.aload_n 0, 1) := by decide +kernel
theorem dL_1159 : decode code 1159 = .ok (.iload_n 3, 1) := by decide +kernel
theorem dL_1160 : decode code 1160 = .ok (.iconst 1, 1) := by decide +kernel
theorem dL_1161 : decode code 1161 = .ok (.iadd, 1) := by decide +kernel
theorem dL_1162 : decode code 1162 = .ok (.iaload, 1) := by decide +kernel
theorem dL_1163 : decode code 1163 = .ok (.invokevirtual 152, 3) := by decide +kernel
theorem dL_1166 : decode code 1166 = .ok (.if_icmp .eq 569, 3) := by decide +kernel
theorem dL_1169 : decode code 1169 = .ok (.iconst 0, 1) := by decide +kernel
theorem dL_1170 : decode code 1170 = .ok (.ireturn, 1) := by decide +kernel
theorem dL_1171 : decode code 1171 = .ok (.aload_n 1, 1) := by decide +kernel
theorem dL_1172 : decode code 1172 = .ok (.invokevirtual 153, 3) := by decide +kernel
theorem dL_1175 : decode code 1175 = .ok (.aload_n 2, 1) := by decide +kernel
theorem dL_1176 : decode code 1176 = .ok (.invokevirtual 156, 3) := by decide +kernel
theorem dL_1179 : decode code 1179 = .ok (.if_icmp .eq 556, 3) := by decide +kernel
theorem dL_1182 : decode code 1182 = .ok (.iconst 0, 1) := by decide +kernel
theorem dL_1183 : decode code 1183 = .ok (.ireturn, 1) := by decide +kernel
theorem dL_1184 : decode code 1184 = .ok (.aload_n 1, 1) := by decide +kernel
theorem dL_1185 : decode code 1185 = .ok (.aload_n 0, 1) := by decide +kernel
theorem dL_1186 : decode code 1186 = .ok (.iload_n 3, 1) := by decide +kernel
theorem dL_1187 : decode code 1187 = .ok (.iconst 1, 1) := by decide +kernel
theorem dL_1188 : decode code 1188 = .ok (.iadd, 1) := by decide +kernel
theorem dL_1189 : decode code 1189 = .ok (.iaload, 1) := by decide +kernel
theorem dL_1190 : decode code 1190 = .ok (.aload_n 0, 1) := by decide +kernel
theorem dL_1191 : decode code 1191 = .ok (.iload_n 3, 1) := by decide +kernel
theorem dL_1192 : decode code 1192 = .ok (.iconst 2, 1) := by decide +kernel
theorem dL_1193 : decode code 1193 = .ok (.iadd, 1) := by decide +kernel
theorem dL_1194 : decode code 1194 = .ok (.iaload, 1) := by decide +kernel
theorem dL_1195 : decode code 1195 = .ok (.invokevirtual 157, 3) := by decide +kernel
theorem dL_1198 : decode code 1198 = .ok (.aload_n 2, 1) := by decide +kernel
theorem dL_1199 : decode code 1199 = .ok (.aload_n 0, 1) := by decide +kernel
theorem dL_1200 : decode code 1200 = .ok (.iload_n 3, 1) := by decide +kernel
theorem dL_1201 : decode code 1201 = .ok (.iconst 1, 1) := by decide +kernel
theorem dL_1202 : decode code 1202 = .ok (.iadd, 1) := by decide +kernel
theorem dL_1203 : decode code 1203 = .ok (.iaload, 1) := by decide +kernel
theorem dL_1204 : decode code 1204 = .ok (.aload_n 0, 1) := by decide +kernel
theorem dL_1205 : decode code 1205 = .ok (.iload_n 3, 1) := by decide +kernel
theorem dL_1206 : decode code 1206 = .ok (.iconst 2, 1) := by decide +kernel
theorem dL_1207 : decode code 1207 = .ok (.iadd, 1) := by decide +kernel
theorem dL_1208 : decode code 1208 = .ok (.iaload, 1) := by decide +kernel
theorem dL_1209 : decode code 1209 = .ok (.invokevirtual 160, 3) := by decide +kernel
theorem dL_1212 : decode code 1212 = .ok (.if_icmp .eq 523, 3) := by decide +kernel
theorem dL_1215 : decode code 1215 = .ok (.iconst 0, 1) := by decide +kernel
theorem dL_1216 : decode code 1216 = .ok (.ireturn, 1) := by decide +kernel
theorem dL_1217 : decode code 1217 = .ok (.aload_n 1, 1) := by decide +kernel
theorem dL_1218 : decode code 1218 = .ok (.aload_n 0, 1) := by decide +kernel
theorem dL_1219 : decode code 1219 = .ok (.iload_n 3, 1) := by decide +kernel
theorem dL_1220 : decode code 1220 = .ok (.iconst 1, 1) := by decide +kernel
theorem dL_1221 : decode code 1221 = .ok (.iadd, 1) := by decide +kernel
theorem dL_1222 : decode code 1222 = .ok (.iaload, 1) := by decide +kernel
theorem dL_1223 : decode code 1223 = .ok (.invokevirtual 161, 3) := by decide +kernel
theorem dL_1226 : decode code 1226 = .ok (.aload_n 2, 1) := by decide +kernel
theorem dL_1227 : decode code 1227 = .ok (.aload_n 0, 1) := by decide +kernel
theorem dL_1228 : decode code 1228 = .ok (.iload_n 3, 1) := by decide +kernel
theorem dL_1229 : decode code 1229 = .ok (.iconst 1, 1) := by decide +kernel
theorem dL_1230 : decode code 1230 = .ok (.iadd, 1) := by decide +kernel
theorem dL_1231 : decode code 1231 = .ok (.iaload, 1) := by decide +kernel
theorem dL_1232 : decode code 1232 = .ok (.invokevirtual 164, 3) := by decide +kernel
theorem dL_1235 : decode code 1235 = .ok (.if_icmp .eq 500, 3) := by decide +kernel
theorem dL_1238 : decode code 1238 = .ok (.iconst 0, 1) := by decide +kernel
theorem dL_1239 : decode code 1239 = .ok (.ireturn, 1) := by decide +kernel
theorem dL_1240 : decode code 1240 = .ok (.aload_n 1, 1) := by decide +kernel
theorem dL_1241 : decode code 1241 = .ok (.aload_n 0, 1) := by decide +kernel
theorem dL_1242 : decode code 1242 = .ok (.iload_n 3, 1) := by decide +kernel
theorem dL_1243 : decode code 1243 = .ok (.iconst 1, 1) := by decide +kernel
theorem dL_1244 : decode code 1244 = .ok (.iadd, 1) := by decide +kernel
theorem dL_1245 : decode code 1245 = .ok (.iaload, 1) := by decide +kernel
theorem dL_1246 : decode code 1246 = .ok (.aload_n 0, 1) := by decide +kernel
theorem dL_1247 : decode code 1247 = .ok (.iload_n 3, 1) := by decide +kernel
theorem dL_1248 : decode code 1248 = .ok (.iconst 2, 1) := by decide +kernel
theorem dL_1249 : decode code 1249 = .ok (.iadd, 1) := by decide +kernel
theorem dL_1250 : decode code 1250 = .ok (.iaload, 1) := by decide +kernel
theorem dL_1251 : decode code 1251 = .ok (.invokevirtual 165, 3) := by decide +kernel
theorem dL_1254 : decode code 1254 = .ok (.aload_n 2, 1) := by decide +kernel
theorem dL_1255 : decode code 1255 = .ok (.aload_n 0, 1) := by decide +kernel
theorem dL_1256 : decode code 1256 = .ok (.iload_n 3, 1) := by decide +kernel
theorem dL_1257 : decode code 1257 = .ok (.iconst 1, 1) := by decide +kernel
theorem dL_1258 : decode code 1258 = .ok (.iadd, 1) := by decide +kernel
theorem dL_1259 : decode code 1259 = .ok (.iaload, 1) := by decide +kernel
theorem dL_1260 : decode code 1260 = .ok (.aload_n 0, 1) := by decide +kernel
theorem dL_1261 : decode code 1261 = .ok (.iload_n 3, 1) := by decide +kernel
theorem dL_1262 : decode code 1262 = .ok (.iconst 2, 1) := by decide +kernel
theorem dL_1263 : decode code 1263 = .ok (.iadd, 1) := by decide +kernel
theorem dL_1264 : decode code 1264 = .ok (.iaload, 1) := by decide +kernel
theorem dL_1265 : decode code 1265 = .ok (.invokevirtual 168, 3) := by decide +kernel
theorem dL_1268 : decode code 1268 = .ok (.if_icmp .eq 467, 3) := by decide +kernel
theorem dL_1271 : decode code 1271 = .ok (.iconst 0, 1) := by decide +kernel
theorem dL_1272 : decode code 1272 = .ok (.ireturn, 1) := by decide +kernel
theorem dL_1273 : decode code 1273 = .ok (.aload_n 1, 1) := by decide +kernel
theorem dL_1274 : decode code 1274 = .ok (.aload_n 0, 1) := by decide +kernel
theorem dL_1275 : decode code 1275 = .ok (.iload_n 3, 1) := by decide +kernel
theorem dL_1276 : decode code 1276 = .ok (.iconst 1, 1) := by decide +kernel
theorem dL_1277 : decode code 1277 = .ok (.iadd, 1) := by decide +kernel
theorem dL_1278 : decode code 1278 = .ok (.iaload, 1) := by decide +kernel
theorem dL_1279 : decode code 1279 = .ok (.aload_n 0, 1) := by decide +kernel
theorem dL_1280 : decode code 1280 = .ok (.iload_n 3, 1) := by decide +kernel
theorem dL_1281 : decode code 1281 = .ok (.iconst 2, 1) := by decide +kernel
theorem dL_1282 : decode code 1282 = .ok (.iadd, 1) := by decide +kernel
theorem dL_1283 : decode code 1283 = .ok (.iaload, 1) := by decide +kernel
theorem dL_1284 : decode code 1284 = .ok (.aload_n 0, 1) := by decide +kernel
theorem dL_1285 : decode code 1285 = .ok (.iload_n 3, 1) := by decide +kernel
theorem dL_1286 : decode code 1286 = .ok (.iconst 3, 1) := by decide +kernel
theorem dL_1287 : decode code 1287 = .ok (.iadd, 1) := by decide +kernel
theorem dL_1288 : decode code 1288 = .ok (.iaload, 1) := by decide +kernel
theorem dL_1289 : decode code 1289 = .ok (.invokevirtual 169, 3) := by decide +kernel
theorem dL_1292 : decode code 1292 = .ok (.aload_n 2, 1) := by decide +kernel
theorem dL_1293 : decode code 1293 = .ok (.aload_n 0, 1) := by decide +kernel
theorem dL_1294 : decode code 1294 = .ok (.iload_n 3, 1) := by decide +kernel
theorem dL_1295 : decode code 1295 = .ok (.iconst 1, 1) := by decide +kernel
theorem dL_1296 : decode code 1296 = .ok (.iadd, 1) := by decide +kernel
theorem dL_1297 : decode code 1297 = .ok (.iaload, 1) := by decide +kernel
theorem dL_1298 : decode code 1298 = .ok (.aload_n 0, 1) := by decide +kernel
theorem dL_1299 : decode code 1299 = .ok (.iload_n 3, 1) := by decide +kernel
theorem dL_1300 : decode code 1300 = .ok (.iconst 2, 1) := by decide +kernel
theorem dL_1301 : decode code 1301 = .ok (.iadd, 1) := by decide +kernel
theorem dL_1302 : decode code 1302 = .ok (.iaload, 1) := by decide +kernel
theorem dL_1303 : decode code 1303 = .ok (.aload_n 0, 1) := by decide +kernel
theorem dL_1304 : decode code 1304 = .ok (.iload_n 3, 1) := by decide +kernel
theorem dL_1305 : decode code 1305 = .ok (.iconst 3, 1) := by decide +kernel
theorem dL_1306 : decode code 1306 = .ok (.iadd, 1) := by decide +kernel
theorem dL_1307 : decode code 1307 = .ok (.iaload, 1) := by decide +kernel
theorem dL_1308 : decode code 1308 = .ok (.invokevirtual 172, 3) := by decide +kernel
theorem dL_1311 : decode code 1311 = .ok (.if_icmp .eq 424, 3) := by decide +kernel
theorem dL_1314 : decode code 1314 = .ok (.iconst 0, 1) := by decide +kernel
theorem dL_1315 : decode code 1315 = .ok (.ireturn, 1) := by decide +kernel
theorem dL_1316 : decode code 1316 = .ok (.aload_n 1, 1) := by decide +kernel
theorem dL_1317 : decode code 1317 = .ok (.invokevirtual 173, 3) := by decide +kernel
theorem dL_1320 : decode code 1320 = .ok (.aload_n 2, 1) := by decide +kernel
theorem dL_1321 : decode code 1321 = .ok (.invokevirtual 176, 3) := by decide +kernel
theorem dL_1324 : decode code 1324 = .ok (.if_icmp .eq 411, 3) := by decide +kernel
theorem dL_1327 : decode code 1327 = .ok (.iconst 0, 1) := by decide +kernel
theorem dL_1328 : decode code 1328 = .ok (.ireturn, 1) := by decide +kernel
theorem dL_1329 : decode code 1329 = .ok (.aload_n 1, 1) := by decide +kernel
theorem dL_1330 : decode code 1330 = .ok (.aload_n 0, 1) := by decide +kernel
theorem dL_1331 : decode code 1331 = .ok (.iload_n 3, 1) := by decide +kernel
theorem dL_1332 : decode code 1332 = .ok (.iconst 1, 1) := by decide +kernel
theorem dL_1333 : decode code 1333 = .ok (.iadd, 1) := by decide +kernel
theorem dL_1334 : decode code 1334 = .ok (.iaload, 1) := by decide +kernel
theorem dL_1335 : decode code 1335 = .ok (.aload_n 0, 1) := by decide +kernel
theorem dL_1336 : decode code 1336 = .ok (.iload_n 3, 1) := by decide +kernel
theorem dL_1337 : decode code 1337 = .ok (.iconst 2, 1) := by decide +kernel
theorem dL_1338 : decode code 1338 = .ok (.iadd, 1) := by decide +kernel
theorem dL_1339 : decode code 1339 = .ok (.iaload, 1) := by decide +kernel
theorem dL_1340 : decode code 1340 = .ok (.aload_n 0, 1) := by decide +kernel
theorem dL_1341 : decode code 1341 = .ok (.iload_n 3, 1) := by decide +kernel
theorem dL_1342 : decode code 1342 = .ok (.iconst 3, 1) := by decide +kernel
theorem dL_1343 : decode code 1343 = .ok (.iadd, 1) := by decide +kernel
theorem dL_1344 : decode code 1344 = .ok (.iaload, 1) := by decide +kernel
theorem dL_1345 : decode code 1345 = .ok (.invokevirtual 177, 3) := by decide +kernel
theorem dL_1348 : decode code 1348 = .ok (.aload_n 2, 1) := by decide +kernel
theorem dL_1349 : decode code 1349 = .ok (.aload_n 0, 1) := by decide +kernel
theorem dL_1350 : decode code 1350 = .ok (.iload_n 3, 1) := by decide +kernel
theorem dL_1351 : decode code 1351 = .ok (.iconst 1, 1) := by decide +kernel
theorem dL_1352 : decode code 1352 = .ok (.iadd, 1) := by decide +kernel
theorem dL_1353 : decode code 1353 = .ok (.iaload, 1) := by decide +kernel
theorem dL_1354 : decode code 1354 = .ok (.aload_n 0, 1) := by decide +kernel
theorem dL_1355 : decode code 1355 = .ok (.iload_n 3, 1) := by decide +kernel
theorem dL_1356 : decode code 1356 = .ok (.iconst 2, 1) := by decide +kernel
theorem dL_1357 : decode code 1357 = .ok (.iadd, 1) := by decide +kernel
theorem dL_1358 : decode code 1358 = .ok (.iaload, 1) := by decide +kernel
theorem dL_1359 : decode code 1359 = .ok (.aload_n 0, 1) := by decide +kernel
theorem dL_1360 : decode code 1360 = .ok (.iload_n 3, 1) := by decide +kernel
theorem dL_1361 : decode code 1361 = .ok (.iconst 3, 1) := by decide +kernel
theorem dL_1362 : decode code 1362 = .ok (.iadd, 1) := by decide +kernel
theorem dL_1363 : decode code 1363 = .ok (.iaload, 1) := by decide +kernel
theorem dL_1364 : decode code 1364 = .ok (.invokevirtual 180, 3) := by decide +kernel
theorem dL_1367 : decode code 1367 = .ok (.if_icmp .eq 368, 3) := by decide +kernel
theorem dL_1370 : decode code 1370 = .ok (.iconst 0, 1) := by decide +kernel
theorem dL_1371 : decode code 1371 = .ok (.ireturn, 1) := by decide +kernel
theorem dL_1372 : decode code 1372 = .ok (.aload_n 1, 1) := by decide +kernel
theorem dL_1373 : decode code 1373 = .ok (.aload_n 0, 1) := by decide +kernel
theorem dL_1374 : decode code 1374 = .ok (.iload_n 3, 1) := by decide +kernel
theorem dL_1375 : decode code 1375 = .ok (.iconst 1, 1) := by decide +kernel
