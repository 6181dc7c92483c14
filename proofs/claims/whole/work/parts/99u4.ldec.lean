/-! the law: what its bytes say, 4 -/
theorem dl_1008 : decode code 1008 = .ok (.goto 4, 3) := by decide +kernel
theorem dl_1011 : decode code 1011 = .ok (.iconst 0, 1) := by decide +kernel
theorem dl_1012 : decode code 1012 = .ok (.invokevirtual 113, 3) := by decide +kernel
theorem dl_1015 : decode code 1015 = .ok (.aload_n 2, 1) := by decide +kernel
theorem dl_1016 : decode code 1016 = .ok (.aload_n 0, 1) := by decide +kernel
theorem dl_1017 : decode code 1017 = .ok (.iload_n 3, 1) := by decide +kernel
theorem dl_1018 : decode code 1018 = .ok (.iconst 1, 1) := by decide +kernel
theorem dl_1019 : decode code 1019 = .ok (.iadd, 1) := by decide +kernel
theorem dl_1020 : decode code 1020 = .ok (.iaload, 1) := by decide +kernel
theorem dl_1021 : decode code 1021 = .ok (.aload_n 0, 1) := by decide +kernel
theorem dl_1022 : decode code 1022 = .ok (.iload_n 3, 1) := by decide +kernel
theorem dl_1023 : decode code 1023 = .ok (.iconst 2, 1) := by decide +kernel
theorem dl_1024 : decode code 1024 = .ok (.iadd, 1) := by decide +kernel
theorem dl_1025 : decode code 1025 = .ok (.iaload, 1) := by decide +kernel
theorem dl_1026 : decode code 1026 = .ok (.ifCond .eq 7, 3) := by decide +kernel
theorem dl_1029 : decode code 1029 = .ok (.iconst 1, 1) := by decide +kernel
theorem dl_1030 : decode code 1030 = .ok (.goto 4, 3) := by decide +kernel
theorem dl_1033 : decode code 1033 = .ok (.iconst 0, 1) := by decide +kernel
theorem dl_1034 : decode code 1034 = .ok (.invokevirtual 117, 3) := by decide +kernel
theorem dl_1037 : decode code 1037 = .ok (.if_icmp .eq 988, 3) := by decide +kernel
theorem dl_1040 : decode code 1040 = .ok (.iconst 0, 1) := by decide +kernel
theorem dl_1041 : decode code 1041 = .ok (.ireturn, 1) := by decide +kernel
theorem dl_1042 : decode code 1042 = .ok (.aload_n 1, 1) := by decide +kernel
theorem dl_1043 : decode code 1043 = .ok (.aload_n 0, 1) := by decide +kernel
theorem dl_1044 : decode code 1044 = .ok (.iload_n 3, 1) := by decide +kernel
theorem dl_1045 : decode code 1045 = .ok (.iconst 1, 1) := by decide +kernel
theorem dl_1046 : decode code 1046 = .ok (.iadd, 1) := by decide +kernel
theorem dl_1047 : decode code 1047 = .ok (.iaload, 1) := by decide +kernel
theorem dl_1048 : decode code 1048 = .ok (.aload_n 0, 1) := by decide +kernel
theorem dl_1049 : decode code 1049 = .ok (.iload_n 3, 1) := by decide +kernel
theorem dl_1050 : decode code 1050 = .ok (.iconst 2, 1) := by decide +kernel
theorem dl_1051 : decode code 1051 = .ok (.iadd, 1) := by decide +kernel
theorem dl_1052 : decode code 1052 = .ok (.iaload, 1) := by decide +kernel
theorem dl_1053 : decode code 1053 = .ok (.invokevirtual 118, 3) := by decide +kernel
theorem dl_1056 : decode code 1056 = .ok (.aload_n 2, 1) := by decide +kernel
theorem dl_1057 : decode code 1057 = .ok (.aload_n 0, 1) := by decide +kernel
theorem dl_1058 : decode code 1058 = .ok (.iload_n 3, 1) := by decide +kernel
theorem dl_1059 : decode code 1059 = .ok (.iconst 1, 1) := by decide +kernel
theorem dl_1060 : decode code 1060 = .ok (.iadd, 1) := by decide +kernel
theorem dl_1061 : decode code 1061 = .ok (.iaload, 1) := by decide +kernel
theorem dl_1062 : decode code 1062 = .ok (.aload_n 0, 1) := by decide +kernel
theorem dl_1063 : decode code 1063 = .ok (.iload_n 3, 1) := by decide +kernel
theorem dl_1064 : decode code 1064 = .ok (.iconst 2, 1) := by decide +kernel
theorem dl_1065 : decode code 1065 = .ok (.iadd, 1) := by decide +kernel
theorem dl_1066 : decode code 1066 = .ok (.iaload, 1) := by decide +kernel
theorem dl_1067 : decode code 1067 = .ok (.invokevirtual 121, 3) := by decide +kernel
theorem dl_1070 : decode code 1070 = .ok (.if_icmp .eq 955, 3) := by decide +kernel
theorem dl_1073 : decode code 1073 = .ok (.iconst 0, 1) := by decide +kernel
theorem dl_1074 : decode code 1074 = .ok (.ireturn, 1) := by decide +kernel
theorem dl_1075 : decode code 1075 = .ok (.aload_n 1, 1) := by decide +kernel
theorem dl_1076 : decode code 1076 = .ok (.aload_n 0, 1) := by decide +kernel
theorem dl_1077 : decode code 1077 = .ok (.iload_n 3, 1) := by decide +kernel
theorem dl_1078 : decode code 1078 = .ok (.iconst 1, 1) := by decide +kernel
theorem dl_1079 : decode code 1079 = .ok (.iadd, 1) := by decide +kernel
theorem dl_1080 : decode code 1080 = .ok (.iaload, 1) := by decide +kernel
theorem dl_1081 : decode code 1081 = .ok (.aload_n 0, 1) := by decide +kernel
theorem dl_1082 : decode code 1082 = .ok (.iload_n 3, 1) := by decide +kernel
theorem dl_1083 : decode code 1083 = .ok (.iconst 2, 1) := by decide +kernel
theorem dl_1084 : decode code 1084 = .ok (.iadd, 1) := by decide +kernel
theorem dl_1085 : decode code 1085 = .ok (.iaload, 1) := by decide +kernel
theorem dl_1086 : decode code 1086 = .ok (.aload_n 0, 1) := by decide +kernel
theorem dl_1087 : decode code 1087 = .ok (.iload_n 3, 1) := by decide +kernel
theorem dl_1088 : decode code 1088 = .ok (.iconst 3, 1) := by decide +kernel
theorem dl_1089 : decode code 1089 = .ok (.iadd, 1) := by decide +kernel
theorem dl_1090 : decode code 1090 = .ok (.iaload, 1) := by decide +kernel
theorem dl_1091 : decode code 1091 = .ok (.invokevirtual 122, 3) := by decide +kernel
theorem dl_1094 : decode code 1094 = .ok (.aload_n 2, 1) := by decide +kernel
theorem dl_1095 : decode code 1095 = .ok (.aload_n 0, 1) := by decide +kernel
theorem dl_1096 : decode code 1096 = .ok (.iload_n 3, 1) := by decide +kernel
theorem dl_1097 : decode code 1097 = .ok (.iconst 1, 1) := by decide +kernel
theorem dl_1098 : decode code 1098 = .ok (.iadd, 1) := by decide +kernel
theorem dl_1099 : decode code 1099 = .ok (.iaload, 1) := by decide +kernel
theorem dl_1100 : decode code 1100 = .ok (.aload_n 0, 1) := by decide +kernel
theorem dl_1101 : decode code 1101 = .ok (.iload_n 3, 1) := by decide +kernel
theorem dl_1102 : decode code 1102 = .ok (.iconst 2, 1) := by decide +kernel
theorem dl_1103 : decode code 1103 = .ok (.iadd, 1) := by decide +kernel
theorem dl_1104 : decode code 1104 = .ok (.iaload, 1) := by decide +kernel
theorem dl_1105 : decode code 1105 = .ok (.aload_n 0, 1) := by decide +kernel
theorem dl_1106 : decode code 1106 = .ok (.iload_n 3, 1) := by decide +kernel
theorem dl_1107 : decode code 1107 = .ok (.iconst 3, 1) := by decide +kernel
theorem dl_1108 : decode code 1108 = .ok (.iadd, 1) := by decide +kernel
theorem dl_1109 : decode code 1109 = .ok (.iaload, 1) := by decide +kernel
theorem dl_1110 : decode code 1110 = .ok (.invokevirtual 125, 3) := by decide +kernel
theorem dl_1113 : decode code 1113 = .ok (.if_icmp .eq 912, 3) := by decide +kernel
theorem dl_1116 : decode code 1116 = .ok (.iconst 0, 1) := by decide +kernel
theorem dl_1117 : decode code 1117 = .ok (.ireturn, 1) := by decide +kernel
theorem dl_1118 : decode code 1118 = .ok (.aload_n 1, 1) := by decide +kernel
theorem dl_1119 : decode code 1119 = .ok (.aload_n 0, 1) := by decide +kernel
theorem dl_1120 : decode code 1120 = .ok (.iload_n 3, 1) := by decide +kernel
theorem dl_1121 : decode code 1121 = .ok (.iconst 1, 1) := by decide +kernel
theorem dl_1122 : decode code 1122 = .ok (.iadd, 1) := by decide +kernel
theorem dl_1123 : decode code 1123 = .ok (.iaload, 1) := by decide +kernel
theorem dl_1124 : decode code 1124 = .ok (.invokevirtual 126, 3) := by decide +kernel
theorem dl_1127 : decode code 1127 = .ok (.aload_n 2, 1) := by decide +kernel
theorem dl_1128 : decode code 1128 = .ok (.aload_n 0, 1) := by decide +kernel
theorem dl_1129 : decode code 1129 = .ok (.iload_n 3, 1) := by decide +kernel
theorem dl_1130 : decode code 1130 = .ok (.iconst 1, 1) := by decide +kernel
theorem dl_1131 : decode code 1131 = .ok (.iadd, 1) := by decide +kernel
theorem dl_1132 : decode code 1132 = .ok (.iaload, 1) := by decide +kernel
theorem dl_1133 : decode code 1133 = .ok (.invokevirtual 130, 3) := by decide +kernel
theorem dl_1136 : decode code 1136 = .ok (.if_icmp .eq 889, 3) := by decide +kernel
theorem dl_1139 : decode code 1139 = .ok (.iconst 0, 1) := by decide +kernel
theorem dl_1140 : decode code 1140 = .ok (.ireturn, 1) := by decide +kernel
theorem dl_1141 : decode code 1141 = .ok (.aload_n 1, 1) := by decide +kernel
theorem dl_1142 : decode code 1142 = .ok (.aload_n 0, 1) := by decide +kernel
theorem dl_1143 : decode code 1143 = .ok (.iload_n 3, 1) := by decide +kernel
theorem dl_1144 : decode code 1144 = .ok (.iconst 1, 1) := by decide +kernel
theorem dl_1145 : decode code 1145 = .ok (.iadd, 1) := by decide +kernel
theorem dl_1146 : decode code 1146 = .ok (.iaload, 1) := by decide +kernel
theorem dl_1147 : decode code 1147 = .ok (.invokevirtual 131, 3) := by decide +kernel
theorem dl_1150 : decode code 1150 = .ok (.aload_n 2, 1) := by decide +kernel
theorem dl_1151 : decode code 1151 = .ok (.aload_n 0, 1) := by decide +kernel
theorem dl_1152 : decode code 1152 = .ok (.iload_n 3, 1) := by decide +kernel
theorem dl_1153 : decode code 1153 = .ok (.iconst 1, 1) := by decide +kernel
theorem dl_1154 : decode code 1154 = .ok (.iadd, 1) := by decide +kernel
theorem dl_1155 : decode code 1155 = .ok (.iaload, 1) := by decide +kernel
theorem dl_1156 : decode code 1156 = .ok (.invokevirtual 134, 3) := by decide +kernel
theorem dl_1159 : decode code 1159 = .ok (.if_icmp .eq 866, 3) := by decide +kernel
theorem dl_1162 : decode code 1162 = .ok (.iconst 0, 1) := by decide +kernel
theorem dl_1163 : decode code 1163 = .ok (.ireturn, 1) := by decide +kernel
theorem dl_1164 : decode code 1164 = .ok (.aload_n 1, 1) := by decide +kernel
theorem dl_1165 : decode code 1165 = .ok (.aload_n 0, 1) := by decide +kernel
theorem dl_1166 : decode code 1166 = .ok (.iload_n 3, 1) := by decide +kernel
theorem dl_1167 : decode code 1167 = .ok (.iconst 1, 1) := by decide +kernel
theorem dl_1168 : decode code 1168 = .ok (.iadd, 1) := by decide +kernel
theorem dl_1169 : decode code 1169 = .ok (.iaload, 1) := by decide +kernel
theorem dl_1170 : decode code 1170 = .ok (.invokevirtual 135, 3) := by decide +kernel
theorem dl_1173 : decode code 1173 = .ok (.aload_n 2, 1) := by decide +kernel
theorem dl_1174 : decode code 1174 = .ok (.aload_n 0, 1) := by decide +kernel
theorem dl_1175 : decode code 1175 = .ok (.iload_n 3, 1) := by decide +kernel
theorem dl_1176 : decode code 1176 = .ok (.iconst 1, 1) := by decide +kernel
theorem dl_1177 : decode code 1177 = .ok (.iadd, 1) := by decide +kernel
theorem dl_1178 : decode code 1178 = .ok (.iaload, 1) := by decide +kernel
theorem dl_1179 : decode code 1179 = .ok (.invokevirtual 138, 3) := by decide +kernel
theorem dl_1182 : decode code 1182 = .ok (.if_icmp .eq 843, 3) := by decide +kernel
theorem dl_1185 : decode code 1185 = .ok (.iconst 0, 1) := by decide +kernel
theorem dl_1186 : decode code 1186 = .ok (.ireturn, 1) := by decide +kernel
theorem dl_1187 : decode code 1187 = .ok (.aload_n 1, 1) := by decide +kernel
theorem dl_1188 : decode code 1188 = .ok (.aload_n 0, 1) := by decide +kernel
theorem dl_1189 : decode code 1189 = .ok (.iload_n 3, 1) := by decide +kernel
theorem dl_1190 : decode code 1190 = .ok (.iconst 1, 1) := by decide +kernel
theorem dl_1191 : decode code 1191 = .ok (.iadd, 1) := by decide +kernel
theorem dl_1192 : decode code 1192 = .ok (.iaload, 1) := by decide +kernel
theorem dl_1193 : decode code 1193 = .ok (.invokevirtual 139, 3) := by decide +kernel
theorem dl_1196 : decode code 1196 = .ok (.aload_n 2, 1) := by decide +kernel
theorem dl_1197 : decode code 1197 = .ok (.aload_n 0, 1) := by decide +kernel
theorem dl_1198 : decode code 1198 = .ok (.iload_n 3, 1) := by decide +kernel
theorem dl_1199 : decode code 1199 = .ok (.iconst 1, 1) := by decide +kernel
theorem dl_1200 : decode code 1200 = .ok (.iadd, 1) := by decide +kernel
theorem dl_1201 : decode code 1201 = .ok (.iaload, 1) := by decide +kernel
theorem dl_1202 : decode code 1202 = .ok (.invokevirtual 142, 3) := by decide +kernel
theorem dl_1205 : decode code 1205 = .ok (.if_icmp .eq 820, 3) := by decide +kernel
theorem dl_1208 : decode code 1208 = .ok (.iconst 0, 1) := by decide +kernel
theorem dl_1209 : decode code 1209 = .ok (.ireturn, 1) := by decide +kernel
theorem dl_1210 : decode code 1210 = .ok (.aload_n 1, 1) := by decide +kernel
theorem dl_1211 : decode code 1211 = .ok (.aload_n 0, 1) := by decide +kernel
theorem dl_1212 : decode code 1212 = .ok (.iload_n 3, 1) := by decide +kernel
theorem dl_1213 : decode code 1213 = .ok (.iconst 1, 1) := by decide +kernel
theorem dl_1214 : decode code 1214 = .ok (.iadd, 1) := by decide +kernel
theorem dl_1215 : decode code 1215 = .ok (.iaload, 1) := by decide +kernel
theorem dl_1216 : decode code 1216 = .ok (.aload_n 0, 1) := by decide +kernel
theorem dl_1217 : decode code 1217 = .ok (.iload_n 3, 1) := by decide +kernel
theorem dl_1218 : decode code 1218 = .ok (.iconst 2, 1) := by decide +kernel
theorem dl_1219 : decode code 1219 = .ok (.iadd, 1) := by decide +kernel
theorem dl_1220 : decode code 1220 = .ok (.iaload, 1) := by decide +kernel
theorem dl_1221 : decode code 1221 = .ok (.invokevirtual 143, 3) := by decide +kernel
theorem dl_1224 : decode code 1224 = .ok (.aload_n 2, 1) := by decide +kernel
theorem dl_1225 : decode code 1225 = .ok (.aload_n 0, 1) := by decide +kernel
theorem dl_1226 : decode code 1226 = .ok (.iload_n 3, 1) := by decide +kernel
theorem dl_1227 : decode code 1227 = .ok (.iconst 1, 1) := by decide +kernel
theorem dl_1228 : decode code 1228 = .ok (.iadd, 1) := by decide +kernel
theorem dl_1229 : decode code 1229 = .ok (.iaload, 1) := by decide +kernel
theorem dl_1230 : decode code 1230 = .ok (.aload_n 0, 1) := by decide +kernel
theorem dl_1231 : decode code 1231 = .ok (.iload_n 3, 1) := by decide +kernel
theorem dl_1232 : decode code 1232 = .ok (.iconst 2, 1) := by decide +kernel
theorem dl_1233 : decode code 1233 = .ok (.iadd, 1) := by decide +kernel
theorem dl_1234 : decode code 1234 = .ok (.iaload, 1) := by decide +kernel
theorem dl_1235 : decode code 1235 = .ok (.invokevirtual 146, 3) := by decide +kernel
theorem dl_1238 : decode code 1238 = .ok (.if_icmp .eq 787, 3) := by decide +kernel
theorem dl_1241 : decode code 1241 = .ok (.iconst 0, 1) := by decide +kernel
theorem dl_1242 : decode code 1242 = .ok (.ireturn, 1) := by decide +kernel
theorem dl_1243 : decode code 1243 = .ok (.aload_n 1, 1) := by decide +kernel
theorem dl_1244 : decode code 1244 = .ok (.aload_n 0, 1) := by decide +kernel
theorem dl_1245 : decode code 1245 = .ok (.iload_n 3, 1) := by decide +kernel
theorem dl_1246 : decode code 1246 = .ok (.iconst 1, 1) := by decide +kernel
theorem dl_1247 : decode code 1247 = .ok (.iadd, 1) := by decide +kernel
theorem dl_1248 : decode code 1248 = .ok (.iaload, 1) := by decide +kernel
theorem dl_1249 : decode code 1249 = .ok (.invokevirtual 147, 3) := by decide +kernel
theorem dl_1252 : decode code 1252 = .ok (.aload_n 2, 1) := by decide +kernel
theorem dl_1253 : decode code 1253 = .ok (.aload_n 0, 1) := by decide +kernel
theorem dl_1254 : decode code 1254 = .ok (.iload_n 3, 1) := by decide +kernel
theorem dl_1255 : decode code 1255 = .ok (.iconst 1, 1) := by decide +kernel
theorem dl_1256 : decode code 1256 = .ok (.iadd, 1) := by decide +kernel
theorem dl_1257 : decode code 1257 = .ok (.iaload, 1) := by decide +kernel
theorem dl_1258 : decode code 1258 = .ok (.invokevirtual 150, 3) := by decide +kernel
theorem dl_1261 : decode code 1261 = .ok (.if_icmp .eq 764, 3) := by decide +kernel
theorem dl_1264 : decode code 1264 = .ok (.iconst 0, 1) := by decide +kernel
theorem dl_1265 : decode code 1265 = .ok (.ireturn, 1) := by decide +kernel
