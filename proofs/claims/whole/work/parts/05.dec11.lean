theorem d_LW_law_1017 : decode code 1017 = .ok (.iconst 1, 1) := by decide +kernel
theorem d_LW_law_1018 : decode code 1018 = .ok (.iadd, 1) := by decide +kernel
theorem d_LW_law_1019 : decode code 1019 = .ok (.iaload, 1) := by decide +kernel
theorem d_LW_law_1020 : decode code 1020 = .ok (.invokevirtual 145, 3) := by decide +kernel
theorem d_LW_law_1023 : decode code 1023 = .ok (.istore 6, 2) := by decide +kernel
theorem d_LW_law_1025 : decode code 1025 = .ok (.aload_n 2, 1) := by decide +kernel
theorem d_LW_law_1026 : decode code 1026 = .ok (.invokevirtual 93, 3) := by decide +kernel
theorem d_LW_law_1029 : decode code 1029 = .ok (.iload 5, 2) := by decide +kernel
theorem d_LW_law_1031 : decode code 1031 = .ok (.if_icmp .eq 5, 3) := by decide +kernel
theorem d_LW_law_1034 : decode code 1034 = .ok (.iconst 0, 1) := by decide +kernel
theorem d_LW_law_1035 : decode code 1035 = .ok (.ireturn, 1) := by decide +kernel
theorem d_LW_law_1036 : decode code 1036 = .ok (.iload 5, 2) := by decide +kernel
theorem d_LW_law_1038 : decode code 1038 = .ok (.ifCond .ne 15, 3) := by decide +kernel
theorem d_LW_law_1041 : decode code 1041 = .ok (.aload_n 3, 1) := by decide +kernel
theorem d_LW_law_1042 : decode code 1042 = .ok (.iconst 0, 1) := by decide +kernel
theorem d_LW_law_1043 : decode code 1043 = .ok (.laload, 1) := by decide +kernel
theorem d_LW_law_1044 : decode code 1044 = .ok (.iload 6, 2) := by decide +kernel
theorem d_LW_law_1046 : decode code 1046 = .ok (.i2l, 1) := by decide +kernel
theorem d_LW_law_1047 : decode code 1047 = .ok (.lcmp, 1) := by decide +kernel
theorem d_LW_law_1048 : decode code 1048 = .ok (.ifCond .eq 5, 3) := by decide +kernel
theorem d_LW_law_1051 : decode code 1051 = .ok (.iconst 0, 1) := by decide +kernel
theorem d_LW_law_1052 : decode code 1052 = .ok (.ireturn, 1) := by decide +kernel
theorem d_LW_law_1053 : decode code 1053 = .ok (.goto 251, 3) := by decide +kernel
theorem d_LW_law_1056 : decode code 1056 = .ok (.aload_n 1, 1) := by decide +kernel
theorem d_LW_law_1057 : decode code 1057 = .ok (.aload_n 0, 1) := by decide +kernel
theorem d_LW_law_1058 : decode code 1058 = .ok (.iload 4, 2) := by decide +kernel
theorem d_LW_law_1060 : decode code 1060 = .ok (.iconst 1, 1) := by decide +kernel
theorem d_LW_law_1061 : decode code 1061 = .ok (.iadd, 1) := by decide +kernel
theorem d_LW_law_1062 : decode code 1062 = .ok (.iaload, 1) := by decide +kernel
theorem d_LW_law_1063 : decode code 1063 = .ok (.aload_n 0, 1) := by decide +kernel
theorem d_LW_law_1064 : decode code 1064 = .ok (.iload 4, 2) := by decide +kernel
theorem d_LW_law_1066 : decode code 1066 = .ok (.iconst 2, 1) := by decide +kernel
theorem d_LW_law_1067 : decode code 1067 = .ok (.iadd, 1) := by decide +kernel
theorem d_LW_law_1068 : decode code 1068 = .ok (.iaload, 1) := by decide +kernel
theorem d_LW_law_1069 : decode code 1069 = .ok (.aload_n 3, 1) := by decide +kernel
theorem d_LW_law_1070 : decode code 1070 = .ok (.invokestatic 146, 3) := by decide +kernel
theorem d_LW_law_1073 : decode code 1073 = .ok (.istore 5, 2) := by decide +kernel
theorem d_LW_law_1075 : decode code 1075 = .ok (.aload_n 2, 1) := by decide +kernel
theorem d_LW_law_1076 : decode code 1076 = .ok (.aload_n 0, 1) := by decide +kernel
theorem d_LW_law_1077 : decode code 1077 = .ok (.iload 4, 2) := by decide +kernel
theorem d_LW_law_1079 : decode code 1079 = .ok (.iconst 1, 1) := by decide +kernel
theorem d_LW_law_1080 : decode code 1080 = .ok (.iadd, 1) := by decide +kernel
theorem d_LW_law_1081 : decode code 1081 = .ok (.iaload, 1) := by decide +kernel
theorem d_LW_law_1082 : decode code 1082 = .ok (.aload_n 0, 1) := by decide +kernel
theorem d_LW_law_1083 : decode code 1083 = .ok (.iload 4, 2) := by decide +kernel
theorem d_LW_law_1085 : decode code 1085 = .ok (.iconst 2, 1) := by decide +kernel
theorem d_LW_law_1086 : decode code 1086 = .ok (.iadd, 1) := by decide +kernel
theorem d_LW_law_1087 : decode code 1087 = .ok (.iaload, 1) := by decide +kernel
theorem d_LW_law_1088 : decode code 1088 = .ok (.invokevirtual 148, 3) := by decide +kernel
theorem d_LW_law_1091 : decode code 1091 = .ok (.istore 6, 2) := by decide +kernel
theorem d_LW_law_1093 : decode code 1093 = .ok (.aload_n 2, 1) := by decide +kernel
theorem d_LW_law_1094 : decode code 1094 = .ok (.invokevirtual 93, 3) := by decide +kernel
theorem d_LW_law_1097 : decode code 1097 = .ok (.iload 5, 2) := by decide +kernel
theorem d_LW_law_1099 : decode code 1099 = .ok (.if_icmp .eq 5, 3) := by decide +kernel
theorem d_LW_law_1102 : decode code 1102 = .ok (.iconst 0, 1) := by decide +kernel
theorem d_LW_law_1103 : decode code 1103 = .ok (.ireturn, 1) := by decide +kernel
theorem d_LW_law_1104 : decode code 1104 = .ok (.iload 5, 2) := by decide +kernel
theorem d_LW_law_1106 : decode code 1106 = .ok (.ifCond .ne 15, 3) := by decide +kernel
theorem d_LW_law_1109 : decode code 1109 = .ok (.aload_n 3, 1) := by decide +kernel
theorem d_LW_law_1110 : decode code 1110 = .ok (.iconst 0, 1) := by decide +kernel
theorem d_LW_law_1111 : decode code 1111 = .ok (.laload, 1) := by decide +kernel
theorem d_LW_law_1112 : decode code 1112 = .ok (.iload 6, 2) := by decide +kernel
theorem d_LW_law_1114 : decode code 1114 = .ok (.i2l, 1) := by decide +kernel
theorem d_LW_law_1115 : decode code 1115 = .ok (.lcmp, 1) := by decide +kernel
theorem d_LW_law_1116 : decode code 1116 = .ok (.ifCond .eq 5, 3) := by decide +kernel
theorem d_LW_law_1119 : decode code 1119 = .ok (.iconst 0, 1) := by decide +kernel
theorem d_LW_law_1120 : decode code 1120 = .ok (.ireturn, 1) := by decide +kernel
theorem d_LW_law_1121 : decode code 1121 = .ok (.goto 183, 3) := by decide +kernel
theorem d_LW_law_1124 : decode code 1124 = .ok (.aload_n 1, 1) := by decide +kernel
theorem d_LW_law_1125 : decode code 1125 = .ok (.aload_n 0, 1) := by decide +kernel
theorem d_LW_law_1126 : decode code 1126 = .ok (.iload 4, 2) := by decide +kernel
theorem d_LW_law_1128 : decode code 1128 = .ok (.iconst 1, 1) := by decide +kernel
theorem d_LW_law_1129 : decode code 1129 = .ok (.iadd, 1) := by decide +kernel
theorem d_LW_law_1130 : decode code 1130 = .ok (.iaload, 1) := by decide +kernel
theorem d_LW_law_1131 : decode code 1131 = .ok (.aload_n 3, 1) := by decide +kernel
theorem d_LW_law_1132 : decode code 1132 = .ok (.invokestatic 149, 3) := by decide +kernel
theorem d_LW_law_1135 : decode code 1135 = .ok (.istore 5, 2) := by decide +kernel
theorem d_LW_law_1137 : decode code 1137 = .ok (.aload_n 2, 1) := by decide +kernel
theorem d_LW_law_1138 : decode code 1138 = .ok (.aload_n 0, 1) := by decide +kernel
theorem d_LW_law_1139 : decode code 1139 = .ok (.iload 4, 2) := by decide +kernel
theorem d_LW_law_1141 : decode code 1141 = .ok (.iconst 1, 1) := by decide +kernel
theorem d_LW_law_1142 : decode code 1142 = .ok (.iadd, 1) := by decide +kernel
theorem d_LW_law_1143 : decode code 1143 = .ok (.iaload, 1) := by decide +kernel
theorem d_LW_law_1144 : decode code 1144 = .ok (.invokevirtual 151, 3) := by decide +kernel
theorem d_LW_law_1147 : decode code 1147 = .ok (.istore 6, 2) := by decide +kernel
theorem d_LW_law_1149 : decode code 1149 = .ok (.aload_n 2, 1) := by decide +kernel
theorem d_LW_law_1150 : decode code 1150 = .ok (.invokevirtual 93, 3) := by decide +kernel
theorem d_LW_law_1153 : decode code 1153 = .ok (.iload 5, 2) := by decide +kernel
theorem d_LW_law_1155 : decode code 1155 = .ok (.if_icmp .eq 5, 3) := by decide +kernel
theorem d_LW_law_1158 : decode code 1158 = .ok (.iconst 0, 1) := by decide +kernel
theorem d_LW_law_1159 : decode code 1159 = .ok (.ireturn, 1) := by decide +kernel
theorem d_LW_law_1160 : decode code 1160 = .ok (.iload 5, 2) := by decide +kernel
theorem d_LW_law_1162 : decode code 1162 = .ok (.ifCond .ne 15, 3) := by decide +kernel
theorem d_LW_law_1165 : decode code 1165 = .ok (.aload_n 3, 1) := by decide +kernel
theorem d_LW_law_1166 : decode code 1166 = .ok (.iconst 0, 1) := by decide +kernel
theorem d_LW_law_1167 : decode code 1167 = .ok (.laload, 1) := by decide +kernel
theorem d_LW_law_1168 : decode code 1168 = .ok (.iload 6, 2) := by decide +kernel
theorem d_LW_law_1170 : decode code 1170 = .ok (.i2l, 1) := by decide +kernel
theorem d_LW_law_1171 : decode code 1171 = .ok (.lcmp, 1) := by decide +kernel
theorem d_LW_law_1172 : decode code 1172 = .ok (.ifCond .eq 5, 3) := by decide +kernel
theorem d_LW_law_1175 : decode code 1175 = .ok (.iconst 0, 1) := by decide +kernel
theorem d_LW_law_1176 : decode code 1176 = .ok (.ireturn, 1) := by decide +kernel
theorem d_LW_law_1177 : decode code 1177 = .ok (.goto 127, 3) := by decide +kernel
theorem d_LW_law_1180 : decode code 1180 = .ok (.aload_n 1, 1) := by decide +kernel
theorem d_LW_law_1181 : decode code 1181 = .ok (.aload_n 0, 1) := by decide +kernel
theorem d_LW_law_1182 : decode code 1182 = .ok (.iload 4, 2) := by decide +kernel
theorem d_LW_law_1184 : decode code 1184 = .ok (.iconst 1, 1) := by decide +kernel
theorem d_LW_law_1185 : decode code 1185 = .ok (.iadd, 1) := by decide +kernel
theorem d_LW_law_1186 : decode code 1186 = .ok (.iaload, 1) := by decide +kernel
theorem d_LW_law_1187 : decode code 1187 = .ok (.aload_n 0, 1) := by decide +kernel
theorem d_LW_law_1188 : decode code 1188 = .ok (.iload 4, 2) := by decide +kernel
theorem d_LW_law_1190 : decode code 1190 = .ok (.iconst 2, 1) := by decide +kernel
theorem d_LW_law_1191 : decode code 1191 = .ok (.iadd, 1) := by decide +kernel
theorem d_LW_law_1192 : decode code 1192 = .ok (.iaload, 1) := by decide +kernel
theorem d_LW_law_1193 : decode code 1193 = .ok (.aload_n 3, 1) := by decide +kernel
theorem d_LW_law_1194 : decode code 1194 = .ok (.invokestatic 152, 3) := by decide +kernel
theorem d_LW_law_1197 : decode code 1197 = .ok (.istore 5, 2) := by decide +kernel
theorem d_LW_law_1199 : decode code 1199 = .ok (.aload_n 2, 1) := by decide +kernel
theorem d_LW_law_1200 : decode code 1200 = .ok (.aload_n 0, 1) := by decide +kernel
theorem d_LW_law_1201 : decode code 1201 = .ok (.iload 4, 2) := by decide +kernel
theorem d_LW_law_1203 : decode code 1203 = .ok (.iconst 1, 1) := by decide +kernel
theorem d_LW_law_1204 : decode code 1204 = .ok (.iadd, 1) := by decide +kernel
theorem d_LW_law_1205 : decode code 1205 = .ok (.iaload, 1) := by decide +kernel
theorem d_LW_law_1206 : decode code 1206 = .ok (.aload_n 0, 1) := by decide +kernel
theorem d_LW_law_1207 : decode code 1207 = .ok (.iload 4, 2) := by decide +kernel
theorem d_LW_law_1209 : decode code 1209 = .ok (.iconst 2, 1) := by decide +kernel
theorem d_LW_law_1210 : decode code 1210 = .ok (.iadd, 1) := by decide +kernel
theorem d_LW_law_1211 : decode code 1211 = .ok (.iaload, 1) := by decide +kernel
theorem d_LW_law_1212 : decode code 1212 = .ok (.invokevirtual 154, 3) := by decide +kernel
theorem d_LW_law_1215 : decode code 1215 = .ok (.istore 6, 2) := by decide +kernel
theorem d_LW_law_1217 : decode code 1217 = .ok (.aload_n 2, 1) := by decide +kernel
theorem d_LW_law_1218 : decode code 1218 = .ok (.invokevirtual 93, 3) := by decide +kernel
theorem d_LW_law_1221 : decode code 1221 = .ok (.iload 5, 2) := by decide +kernel
theorem d_LW_law_1223 : decode code 1223 = .ok (.if_icmp .eq 5, 3) := by decide +kernel
theorem d_LW_law_1226 : decode code 1226 = .ok (.iconst 0, 1) := by decide +kernel
theorem d_LW_law_1227 : decode code 1227 = .ok (.ireturn, 1) := by decide +kernel
theorem d_LW_law_1228 : decode code 1228 = .ok (.iload 5, 2) := by decide +kernel
theorem d_LW_law_1230 : decode code 1230 = .ok (.ifCond .ne 15, 3) := by decide +kernel
theorem d_LW_law_1233 : decode code 1233 = .ok (.aload_n 3, 1) := by decide +kernel
theorem d_LW_law_1234 : decode code 1234 = .ok (.iconst 0, 1) := by decide +kernel
theorem d_LW_law_1235 : decode code 1235 = .ok (.laload, 1) := by decide +kernel
theorem d_LW_law_1236 : decode code 1236 = .ok (.iload 6, 2) := by decide +kernel
theorem d_LW_law_1238 : decode code 1238 = .ok (.i2l, 1) := by decide +kernel
theorem d_LW_law_1239 : decode code 1239 = .ok (.lcmp, 1) := by decide +kernel
theorem d_LW_law_1240 : decode code 1240 = .ok (.ifCond .eq 5, 3) := by decide +kernel
theorem d_LW_law_1243 : decode code 1243 = .ok (.iconst 0, 1) := by decide +kernel
theorem d_LW_law_1244 : decode code 1244 = .ok (.ireturn, 1) := by decide +kernel
theorem d_LW_law_1245 : decode code 1245 = .ok (.goto 59, 3) := by decide +kernel
theorem d_LW_law_1248 : decode code 1248 = .ok (.aload_n 1, 1) := by decide +kernel
theorem d_LW_law_1249 : decode code 1249 = .ok (.aload_n 0, 1) := by decide +kernel
theorem d_LW_law_1250 : decode code 1250 = .ok (.iload 4, 2) := by decide +kernel
theorem d_LW_law_1252 : decode code 1252 = .ok (.iconst 1, 1) := by decide +kernel
theorem d_LW_law_1253 : decode code 1253 = .ok (.iadd, 1) := by decide +kernel
theorem d_LW_law_1254 : decode code 1254 = .ok (.iaload, 1) := by decide +kernel
theorem d_LW_law_1255 : decode code 1255 = .ok (.aload_n 3, 1) := by decide +kernel
theorem d_LW_law_1256 : decode code 1256 = .ok (.invokestatic 155, 3) := by decide +kernel
theorem d_LW_law_1259 : decode code 1259 = .ok (.istore 5, 2) := by decide +kernel
theorem d_LW_law_1261 : decode code 1261 = .ok (.aload_n 2, 1) := by decide +kernel
theorem d_LW_law_1262 : decode code 1262 = .ok (.aload_n 0, 1) := by decide +kernel
theorem d_LW_law_1263 : decode code 1263 = .ok (.iload 4, 2) := by decide +kernel
theorem d_LW_law_1265 : decode code 1265 = .ok (.iconst 1, 1) := by decide +kernel
theorem d_LW_law_1266 : decode code 1266 = .ok (.iadd, 1) := by decide +kernel
theorem d_LW_law_1267 : decode code 1267 = .ok (.iaload, 1) := by decide +kernel
theorem d_LW_law_1268 : decode code 1268 = .ok (.invokevirtual 157, 3) := by decide +kernel
theorem d_LW_law_1271 : decode code 1271 = .ok (.istore 6, 2) := by decide +kernel
theorem d_LW_law_1273 : decode code 1273 = .ok (.aload_n 2, 1) := by decide +kernel
theorem d_LW_law_1274 : decode code 1274 = .ok (.invokevirtual 93, 3) := by decide +kernel
theorem d_LW_law_1277 : decode code 1277 = .ok (.iload 5, 2) := by decide +kernel
theorem d_LW_law_1279 : decode code 1279 = .ok (.if_icmp .eq 5, 3) := by decide +kernel
theorem d_LW_law_1282 : decode code 1282 = .ok (.iconst 0, 1) := by decide +kernel
theorem d_LW_law_1283 : decode code 1283 = .ok (.ireturn, 1) := by decide +kernel
theorem d_LW_law_1284 : decode code 1284 = .ok (.iload 5, 2) := by decide +kernel
theorem d_LW_law_1286 : decode code 1286 = .ok (.ifCond .ne 15, 3) := by decide +kernel
theorem d_LW_law_1289 : decode code 1289 = .ok (.aload_n 3, 1) := by decide +kernel
theorem d_LW_law_1290 : decode code 1290 = .ok (.iconst 0, 1) := by decide +kernel
theorem d_LW_law_1291 : decode code 1291 = .ok (.laload, 1) := by decide +kernel
theorem d_LW_law_1292 : decode code 1292 = .ok (.iload 6, 2) := by decide +kernel
theorem d_LW_law_1294 : decode code 1294 = .ok (.i2l, 1) := by decide +kernel
theorem d_LW_law_1295 : decode code 1295 = .ok (.lcmp, 1) := by decide +kernel
theorem d_LW_law_1296 : decode code 1296 = .ok (.ifCond .eq 5, 3) := by decide +kernel
theorem d_LW_law_1299 : decode code 1299 = .ok (.iconst 0, 1) := by decide +kernel
theorem d_LW_law_1300 : decode code 1300 = .ok (.ireturn, 1) := by decide +kernel
theorem d_LW_law_1301 : decode code 1301 = .ok (.goto 3, 3) := by decide +kernel
theorem d_LW_law_1304 : decode code 1304 = .ok (.iinc 4 4, 3) := by decide +kernel
theorem d_LW_law_1307 : decode code 1307 = .ok (.goto (-1284), 3) := by decide +kernel
theorem d_LW_law_1310 : decode code 1310 = .ok (.iconst 1, 1) := by decide +kernel
theorem d_LW_law_1311 : decode code 1311 = .ok (.ireturn, 1) := by decide +kernel
