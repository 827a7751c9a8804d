theorem dW_1033 : decode code 1033 = .ok (.iconst 2, 1) := by decide +kernel
theorem dW_1034 : decode code 1034 = .ok (.iadd, 1) := by decide +kernel
theorem dW_1035 : decode code 1035 = .ok (.iaload, 1) := by decide +kernel
theorem dW_1036 : decode code 1036 = .ok (.invokevirtual 114, 3) := by decide +kernel
theorem dW_1039 : decode code 1039 = .ok (.lstore 6, 2) := by decide +kernel
theorem dW_1041 : decode code 1041 = .ok (.aload_n 2, 1) := by decide +kernel
theorem dW_1042 : decode code 1042 = .ok (.invokevirtual 77, 3) := by decide +kernel
theorem dW_1045 : decode code 1045 = .ok (.iload 5, 2) := by decide +kernel
theorem dW_1047 : decode code 1047 = .ok (.if_icmp .eq 5, 3) := by decide +kernel
theorem dW_1050 : decode code 1050 = .ok (.iconst 0, 1) := by decide +kernel
theorem dW_1051 : decode code 1051 = .ok (.ireturn, 1) := by decide +kernel
theorem dW_1052 : decode code 1052 = .ok (.iload 5, 2) := by decide +kernel
theorem dW_1054 : decode code 1054 = .ok (.ifCond .ne 14, 3) := by decide +kernel
theorem dW_1057 : decode code 1057 = .ok (.aload_n 3, 1) := by decide +kernel
theorem dW_1058 : decode code 1058 = .ok (.iconst 0, 1) := by decide +kernel
theorem dW_1059 : decode code 1059 = .ok (.laload, 1) := by decide +kernel
theorem dW_1060 : decode code 1060 = .ok (.lload 6, 2) := by decide +kernel
theorem dW_1062 : decode code 1062 = .ok (.lcmp, 1) := by decide +kernel
theorem dW_1063 : decode code 1063 = .ok (.ifCond .eq 5, 3) := by decide +kernel
theorem dW_1066 : decode code 1066 = .ok (.iconst 0, 1) := by decide +kernel
theorem dW_1067 : decode code 1067 = .ok (.ireturn, 1) := by decide +kernel
theorem dW_1068 : decode code 1068 = .ok (.goto 384, 3) := by decide +kernel
theorem dW_1071 : decode code 1071 = .ok (.aload_n 1, 1) := by decide +kernel
theorem dW_1072 : decode code 1072 = .ok (.aload_n 0, 1) := by decide +kernel
theorem dW_1073 : decode code 1073 = .ok (.iload 4, 2) := by decide +kernel
theorem dW_1075 : decode code 1075 = .ok (.iconst 1, 1) := by decide +kernel
theorem dW_1076 : decode code 1076 = .ok (.iadd, 1) := by decide +kernel
theorem dW_1077 : decode code 1077 = .ok (.iaload, 1) := by decide +kernel
theorem dW_1078 : decode code 1078 = .ok (.aload_n 0, 1) := by decide +kernel
theorem dW_1079 : decode code 1079 = .ok (.iload 4, 2) := by decide +kernel
theorem dW_1081 : decode code 1081 = .ok (.iconst 2, 1) := by decide +kernel
theorem dW_1082 : decode code 1082 = .ok (.iadd, 1) := by decide +kernel
theorem dW_1083 : decode code 1083 = .ok (.iaload, 1) := by decide +kernel
theorem dW_1084 : decode code 1084 = .ok (.aload_n 0, 1) := by decide +kernel
theorem dW_1085 : decode code 1085 = .ok (.iload 4, 2) := by decide +kernel
theorem dW_1087 : decode code 1087 = .ok (.iconst 3, 1) := by decide +kernel
theorem dW_1088 : decode code 1088 = .ok (.iadd, 1) := by decide +kernel
theorem dW_1089 : decode code 1089 = .ok (.iaload, 1) := by decide +kernel
theorem dW_1090 : decode code 1090 = .ok (.aload_n 3, 1) := by decide +kernel
theorem dW_1091 : decode code 1091 = .ok (.invokestatic 115, 3) := by decide +kernel
theorem dW_1094 : decode code 1094 = .ok (.istore 5, 2) := by decide +kernel
theorem dW_1096 : decode code 1096 = .ok (.aload_n 2, 1) := by decide +kernel
theorem dW_1097 : decode code 1097 = .ok (.aload_n 0, 1) := by decide +kernel
theorem dW_1098 : decode code 1098 = .ok (.iload 4, 2) := by decide +kernel
theorem dW_1100 : decode code 1100 = .ok (.iconst 1, 1) := by decide +kernel
theorem dW_1101 : decode code 1101 = .ok (.iadd, 1) := by decide +kernel
theorem dW_1102 : decode code 1102 = .ok (.iaload, 1) := by decide +kernel
theorem dW_1103 : decode code 1103 = .ok (.aload_n 0, 1) := by decide +kernel
theorem dW_1104 : decode code 1104 = .ok (.iload 4, 2) := by decide +kernel
theorem dW_1106 : decode code 1106 = .ok (.iconst 2, 1) := by decide +kernel
theorem dW_1107 : decode code 1107 = .ok (.iadd, 1) := by decide +kernel
theorem dW_1108 : decode code 1108 = .ok (.iaload, 1) := by decide +kernel
theorem dW_1109 : decode code 1109 = .ok (.aload_n 0, 1) := by decide +kernel
theorem dW_1110 : decode code 1110 = .ok (.iload 4, 2) := by decide +kernel
theorem dW_1112 : decode code 1112 = .ok (.iconst 3, 1) := by decide +kernel
theorem dW_1113 : decode code 1113 = .ok (.iadd, 1) := by decide +kernel
theorem dW_1114 : decode code 1114 = .ok (.iaload, 1) := by decide +kernel
theorem dW_1115 : decode code 1115 = .ok (.invokevirtual 117, 3) := by decide +kernel
theorem dW_1118 : decode code 1118 = .ok (.istore 6, 2) := by decide +kernel
theorem dW_1120 : decode code 1120 = .ok (.aload_n 2, 1) := by decide +kernel
theorem dW_1121 : decode code 1121 = .ok (.invokevirtual 77, 3) := by decide +kernel
theorem dW_1124 : decode code 1124 = .ok (.iload 5, 2) := by decide +kernel
theorem dW_1126 : decode code 1126 = .ok (.if_icmp .eq 5, 3) := by decide +kernel
theorem dW_1129 : decode code 1129 = .ok (.iconst 0, 1) := by decide +kernel
theorem dW_1130 : decode code 1130 = .ok (.ireturn, 1) := by decide +kernel
theorem dW_1131 : decode code 1131 = .ok (.iload 5, 2) := by decide +kernel
theorem dW_1133 : decode code 1133 = .ok (.ifCond .ne 22, 3) := by decide +kernel
theorem dW_1136 : decode code 1136 = .ok (.aload_n 3, 1) := by decide +kernel
theorem dW_1137 : decode code 1137 = .ok (.iconst 0, 1) := by decide +kernel
theorem dW_1138 : decode code 1138 = .ok (.laload, 1) := by decide +kernel
theorem dW_1139 : decode code 1139 = .ok (.iload 6, 2) := by decide +kernel
theorem dW_1141 : decode code 1141 = .ok (.ifCond .eq 7, 3) := by decide +kernel
theorem dW_1144 : decode code 1144 = .ok (.lconst 1, 1) := by decide +kernel
theorem dW_1145 : decode code 1145 = .ok (.goto 4, 3) := by decide +kernel
theorem dW_1148 : decode code 1148 = .ok (.lconst 0, 1) := by decide +kernel
theorem dW_1149 : decode code 1149 = .ok (.lcmp, 1) := by decide +kernel
theorem dW_1150 : decode code 1150 = .ok (.ifCond .eq 5, 3) := by decide +kernel
theorem dW_1153 : decode code 1153 = .ok (.iconst 0, 1) := by decide +kernel
theorem dW_1154 : decode code 1154 = .ok (.ireturn, 1) := by decide +kernel
theorem dW_1155 : decode code 1155 = .ok (.goto 297, 3) := by decide +kernel
theorem dW_1158 : decode code 1158 = .ok (.aload_n 1, 1) := by decide +kernel
theorem dW_1159 : decode code 1159 = .ok (.aload_n 0, 1) := by decide +kernel
theorem dW_1160 : decode code 1160 = .ok (.iload 4, 2) := by decide +kernel
theorem dW_1162 : decode code 1162 = .ok (.iconst 1, 1) := by decide +kernel
theorem dW_1163 : decode code 1163 = .ok (.iadd, 1) := by decide +kernel
theorem dW_1164 : decode code 1164 = .ok (.iaload, 1) := by decide +kernel
theorem dW_1165 : decode code 1165 = .ok (.aload_n 0, 1) := by decide +kernel
theorem dW_1166 : decode code 1166 = .ok (.iload 4, 2) := by decide +kernel
theorem dW_1168 : decode code 1168 = .ok (.iconst 2, 1) := by decide +kernel
theorem dW_1169 : decode code 1169 = .ok (.iadd, 1) := by decide +kernel
theorem dW_1170 : decode code 1170 = .ok (.iaload, 1) := by decide +kernel
theorem dW_1171 : decode code 1171 = .ok (.i2l, 1) := by decide +kernel
theorem dW_1172 : decode code 1172 = .ok (.bipush 32, 2) := by decide +kernel
theorem dW_1174 : decode code 1174 = .ok (.lshl, 1) := by decide +kernel
theorem dW_1175 : decode code 1175 = .ok (.aload_n 0, 1) := by decide +kernel
theorem dW_1176 : decode code 1176 = .ok (.iload 4, 2) := by decide +kernel
theorem dW_1178 : decode code 1178 = .ok (.iconst 3, 1) := by decide +kernel
theorem dW_1179 : decode code 1179 = .ok (.iadd, 1) := by decide +kernel
theorem dW_1180 : decode code 1180 = .ok (.iaload, 1) := by decide +kernel
theorem dW_1181 : decode code 1181 = .ok (.i2l, 1) := by decide +kernel
theorem dW_1182 : decode code 1182 = .ok (.ldc2_w 69, 3) := by decide +kernel
theorem dW_1185 : decode code 1185 = .ok (.land, 1) := by decide +kernel
theorem dW_1186 : decode code 1186 = .ok (.lor, 1) := by decide +kernel
theorem dW_1187 : decode code 1187 = .ok (.aload_n 3, 1) := by decide +kernel
theorem dW_1188 : decode code 1188 = .ok (.invokestatic 118, 3) := by decide +kernel
theorem dW_1191 : decode code 1191 = .ok (.istore 5, 2) := by decide +kernel
theorem dW_1193 : decode code 1193 = .ok (.aload_n 2, 1) := by decide +kernel
theorem dW_1194 : decode code 1194 = .ok (.aload_n 0, 1) := by decide +kernel
theorem dW_1195 : decode code 1195 = .ok (.iload 4, 2) := by decide +kernel
theorem dW_1197 : decode code 1197 = .ok (.iconst 1, 1) := by decide +kernel
theorem dW_1198 : decode code 1198 = .ok (.iadd, 1) := by decide +kernel
theorem dW_1199 : decode code 1199 = .ok (.iaload, 1) := by decide +kernel
theorem dW_1200 : decode code 1200 = .ok (.aload_n 0, 1) := by decide +kernel
theorem dW_1201 : decode code 1201 = .ok (.iload 4, 2) := by decide +kernel
theorem dW_1203 : decode code 1203 = .ok (.iconst 2, 1) := by decide +kernel
theorem dW_1204 : decode code 1204 = .ok (.iadd, 1) := by decide +kernel
theorem dW_1205 : decode code 1205 = .ok (.iaload, 1) := by decide +kernel
theorem dW_1206 : decode code 1206 = .ok (.i2l, 1) := by decide +kernel
theorem dW_1207 : decode code 1207 = .ok (.bipush 32, 2) := by decide +kernel
theorem dW_1209 : decode code 1209 = .ok (.lshl, 1) := by decide +kernel
theorem dW_1210 : decode code 1210 = .ok (.aload_n 0, 1) := by decide +kernel
theorem dW_1211 : decode code 1211 = .ok (.iload 4, 2) := by decide +kernel
theorem dW_1213 : decode code 1213 = .ok (.iconst 3, 1) := by decide +kernel
theorem dW_1214 : decode code 1214 = .ok (.iadd, 1) := by decide +kernel
theorem dW_1215 : decode code 1215 = .ok (.iaload, 1) := by decide +kernel
theorem dW_1216 : decode code 1216 = .ok (.i2l, 1) := by decide +kernel
theorem dW_1217 : decode code 1217 = .ok (.ldc2_w 69, 3) := by decide +kernel
theorem dW_1220 : decode code 1220 = .ok (.land, 1) := by decide +kernel
theorem dW_1221 : decode code 1221 = .ok (.lor, 1) := by decide +kernel
theorem dW_1222 : decode code 1222 = .ok (.invokevirtual 121, 3) := by decide +kernel
theorem dW_1225 : decode code 1225 = .ok (.istore 6, 2) := by decide +kernel
theorem dW_1227 : decode code 1227 = .ok (.aload_n 2, 1) := by decide +kernel
theorem dW_1228 : decode code 1228 = .ok (.invokevirtual 77, 3) := by decide +kernel
theorem dW_1231 : decode code 1231 = .ok (.iload 5, 2) := by decide +kernel
theorem dW_1233 : decode code 1233 = .ok (.if_icmp .eq 5, 3) := by decide +kernel
theorem dW_1236 : decode code 1236 = .ok (.iconst 0, 1) := by decide +kernel
theorem dW_1237 : decode code 1237 = .ok (.ireturn, 1) := by decide +kernel
theorem dW_1238 : decode code 1238 = .ok (.iload 5, 2) := by decide +kernel
theorem dW_1240 : decode code 1240 = .ok (.ifCond .ne 15, 3) := by decide +kernel
theorem dW_1243 : decode code 1243 = .ok (.aload_n 3, 1) := by decide +kernel
theorem dW_1244 : decode code 1244 = .ok (.iconst 0, 1) := by decide +kernel
theorem dW_1245 : decode code 1245 = .ok (.laload, 1) := by decide +kernel
theorem dW_1246 : decode code 1246 = .ok (.iload 6, 2) := by decide +kernel
theorem dW_1248 : decode code 1248 = .ok (.i2l, 1) := by decide +kernel
theorem dW_1249 : decode code 1249 = .ok (.lcmp, 1) := by decide +kernel
theorem dW_1250 : decode code 1250 = .ok (.ifCond .eq 5, 3) := by decide +kernel
theorem dW_1253 : decode code 1253 = .ok (.iconst 0, 1) := by decide +kernel
theorem dW_1254 : decode code 1254 = .ok (.ireturn, 1) := by decide +kernel
theorem dW_1255 : decode code 1255 = .ok (.goto 197, 3) := by decide +kernel
theorem dW_1258 : decode code 1258 = .ok (.aload_n 1, 1) := by decide +kernel
theorem dW_1259 : decode code 1259 = .ok (.aload_n 0, 1) := by decide +kernel
theorem dW_1260 : decode code 1260 = .ok (.iload 4, 2) := by decide +kernel
theorem dW_1262 : decode code 1262 = .ok (.iconst 1, 1) := by decide +kernel
theorem dW_1263 : decode code 1263 = .ok (.iadd, 1) := by decide +kernel
theorem dW_1264 : decode code 1264 = .ok (.iaload, 1) := by decide +kernel
theorem dW_1265 : decode code 1265 = .ok (.aload_n 0, 1) := by decide +kernel
theorem dW_1266 : decode code 1266 = .ok (.iload 4, 2) := by decide +kernel
theorem dW_1268 : decode code 1268 = .ok (.iconst 2, 1) := by decide +kernel
theorem dW_1269 : decode code 1269 = .ok (.iadd, 1) := by decide +kernel
theorem dW_1270 : decode code 1270 = .ok (.iaload, 1) := by decide +kernel
