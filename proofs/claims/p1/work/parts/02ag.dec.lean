theorem dX13_init_967 : decode cX13_init 967 = .ok (.bastore, 1) := by decide +kernel
theorem dX13_init_968 : decode cX13_init 968 = .ok (.dup, 1) := by decide +kernel
theorem dX13_init_969 : decode cX13_init 969 = .ok (.bipush 13, 2) := by decide +kernel
theorem dX13_init_971 : decode cX13_init 971 = .ok (.iconst 1, 1) := by decide +kernel
theorem dX13_init_972 : decode cX13_init 972 = .ok (.bastore, 1) := by decide +kernel
theorem dX13_init_973 : decode cX13_init 973 = .ok (.dup, 1) := by decide +kernel
theorem dX13_init_974 : decode cX13_init 974 = .ok (.bipush 14, 2) := by decide +kernel
theorem dX13_init_976 : decode cX13_init 976 = .ok (.iconst 1, 1) := by decide +kernel
theorem dX13_init_977 : decode cX13_init 977 = .ok (.bastore, 1) := by decide +kernel
theorem dX13_init_978 : decode cX13_init 978 = .ok (.dup, 1) := by decide +kernel
theorem dX13_init_979 : decode cX13_init 979 = .ok (.bipush 15, 2) := by decide +kernel
theorem dX13_init_981 : decode cX13_init 981 = .ok (.iconst 1, 1) := by decide +kernel
theorem dX13_init_982 : decode cX13_init 982 = .ok (.bastore, 1) := by decide +kernel
theorem dX13_init_983 : decode cX13_init 983 = .ok (.dup, 1) := by decide +kernel
theorem dX13_init_984 : decode cX13_init 984 = .ok (.bipush 16, 2) := by decide +kernel
theorem dX13_init_986 : decode cX13_init 986 = .ok (.iconst 1, 1) := by decide +kernel
theorem dX13_init_987 : decode cX13_init 987 = .ok (.bastore, 1) := by decide +kernel
theorem dX13_init_988 : decode cX13_init 988 = .ok (.dup, 1) := by decide +kernel
theorem dX13_init_989 : decode cX13_init 989 = .ok (.bipush 17, 2) := by decide +kernel
theorem dX13_init_991 : decode cX13_init 991 = .ok (.iconst 1, 1) := by decide +kernel
theorem dX13_init_992 : decode cX13_init 992 = .ok (.bastore, 1) := by decide +kernel
theorem dX13_init_993 : decode cX13_init 993 = .ok (.dup, 1) := by decide +kernel
theorem dX13_init_994 : decode cX13_init 994 = .ok (.bipush 18, 2) := by decide +kernel
theorem dX13_init_996 : decode cX13_init 996 = .ok (.iconst 2, 1) := by decide +kernel
theorem dX13_init_997 : decode cX13_init 997 = .ok (.bastore, 1) := by decide +kernel
theorem dX13_init_998 : decode cX13_init 998 = .ok (.dup, 1) := by decide +kernel
theorem dX13_init_999 : decode cX13_init 999 = .ok (.bipush 19, 2) := by decide +kernel
theorem dX13_init_1001 : decode cX13_init 1001 = .ok (.iconst 2, 1) := by decide +kernel
theorem dX13_init_1002 : decode cX13_init 1002 = .ok (.bastore, 1) := by decide +kernel
theorem dX13_init_1003 : decode cX13_init 1003 = .ok (.dup, 1) := by decide +kernel
theorem dX13_init_1004 : decode cX13_init 1004 = .ok (.bipush 20, 2) := by decide +kernel
theorem dX13_init_1006 : decode cX13_init 1006 = .ok (.iconst 2, 1) := by decide +kernel
theorem dX13_init_1007 : decode cX13_init 1007 = .ok (.bastore, 1) := by decide +kernel
theorem dX13_init_1008 : decode cX13_init 1008 = .ok (.dup, 1) := by decide +kernel
theorem dX13_init_1009 : decode cX13_init 1009 = .ok (.bipush 21, 2) := by decide +kernel
theorem dX13_init_1011 : decode cX13_init 1011 = .ok (.iconst 2, 1) := by decide +kernel
theorem dX13_init_1012 : decode cX13_init 1012 = .ok (.bastore, 1) := by decide +kernel
theorem dX13_init_1013 : decode cX13_init 1013 = .ok (.dup, 1) := by decide +kernel
theorem dX13_init_1014 : decode cX13_init 1014 = .ok (.bipush 22, 2) := by decide +kernel
theorem dX13_init_1016 : decode cX13_init 1016 = .ok (.iconst 2, 1) := by decide +kernel
theorem dX13_init_1017 : decode cX13_init 1017 = .ok (.bastore, 1) := by decide +kernel
theorem dX13_init_1018 : decode cX13_init 1018 = .ok (.dup, 1) := by decide +kernel
theorem dX13_init_1019 : decode cX13_init 1019 = .ok (.bipush 23, 2) := by decide +kernel
theorem dX13_init_1021 : decode cX13_init 1021 = .ok (.iconst 2, 1) := by decide +kernel
theorem dX13_init_1022 : decode cX13_init 1022 = .ok (.bastore, 1) := by decide +kernel
theorem dX13_init_1023 : decode cX13_init 1023 = .ok (.dup, 1) := by decide +kernel
theorem dX13_init_1024 : decode cX13_init 1024 = .ok (.bipush 24, 2) := by decide +kernel
theorem dX13_init_1026 : decode cX13_init 1026 = .ok (.iconst 3, 1) := by decide +kernel
theorem dX13_init_1027 : decode cX13_init 1027 = .ok (.bastore, 1) := by decide +kernel
theorem dX13_init_1028 : decode cX13_init 1028 = .ok (.dup, 1) := by decide +kernel
theorem dX13_init_1029 : decode cX13_init 1029 = .ok (.bipush 25, 2) := by decide +kernel
theorem dX13_init_1031 : decode cX13_init 1031 = .ok (.iconst 3, 1) := by decide +kernel
theorem dX13_init_1032 : decode cX13_init 1032 = .ok (.bastore, 1) := by decide +kernel
theorem dX13_init_1033 : decode cX13_init 1033 = .ok (.dup, 1) := by decide +kernel
theorem dX13_init_1034 : decode cX13_init 1034 = .ok (.bipush 26, 2) := by decide +kernel
theorem dX13_init_1036 : decode cX13_init 1036 = .ok (.iconst 3, 1) := by decide +kernel
theorem dX13_init_1037 : decode cX13_init 1037 = .ok (.bastore, 1) := by decide +kernel
theorem dX13_init_1038 : decode cX13_init 1038 = .ok (.dup, 1) := by decide +kernel
theorem dX13_init_1039 : decode cX13_init 1039 = .ok (.bipush 27, 2) := by decide +kernel
theorem dX13_init_1041 : decode cX13_init 1041 = .ok (.iconst 4, 1) := by decide +kernel
theorem dX13_init_1042 : decode cX13_init 1042 = .ok (.bastore, 1) := by decide +kernel
theorem dX13_init_1043 : decode cX13_init 1043 = .ok (.dup, 1) := by decide +kernel
theorem dX13_init_1044 : decode cX13_init 1044 = .ok (.bipush 28, 2) := by decide +kernel
theorem dX13_init_1046 : decode cX13_init 1046 = .ok (.iconst 4, 1) := by decide +kernel
theorem dX13_init_1047 : decode cX13_init 1047 = .ok (.bastore, 1) := by decide +kernel
theorem dX13_init_1048 : decode cX13_init 1048 = .ok (.dup, 1) := by decide +kernel
theorem dX13_init_1049 : decode cX13_init 1049 = .ok (.bipush 29, 2) := by decide +kernel
theorem dX13_init_1051 : decode cX13_init 1051 = .ok (.iconst 4, 1) := by decide +kernel
theorem dX13_init_1052 : decode cX13_init 1052 = .ok (.bastore, 1) := by decide +kernel
theorem dX13_init_1053 : decode cX13_init 1053 = .ok (.dup, 1) := by decide +kernel
theorem dX13_init_1054 : decode cX13_init 1054 = .ok (.bipush 30, 2) := by decide +kernel
theorem dX13_init_1056 : decode cX13_init 1056 = .ok (.iconst 4, 1) := by decide +kernel
theorem dX13_init_1057 : decode cX13_init 1057 = .ok (.bastore, 1) := by decide +kernel
theorem dX13_init_1058 : decode cX13_init 1058 = .ok (.dup, 1) := by decide +kernel
theorem dX13_init_1059 : decode cX13_init 1059 = .ok (.bipush 31, 2) := by decide +kernel
theorem dX13_init_1061 : decode cX13_init 1061 = .ok (.iconst 4, 1) := by decide +kernel
theorem dX13_init_1062 : decode cX13_init 1062 = .ok (.bastore, 1) := by decide +kernel
theorem dX13_init_1063 : decode cX13_init 1063 = .ok (.dup, 1) := by decide +kernel
theorem dX13_init_1064 : decode cX13_init 1064 = .ok (.bipush 32, 2) := by decide +kernel
theorem dX13_init_1066 : decode cX13_init 1066 = .ok (.bipush 30, 2) := by decide +kernel
theorem dX13_init_1068 : decode cX13_init 1068 = .ok (.bastore, 1) := by decide +kernel
theorem dX13_init_1069 : decode cX13_init 1069 = .ok (.dup, 1) := by decide +kernel
theorem dX13_init_1070 : decode cX13_init 1070 = .ok (.bipush 33, 2) := by decide +kernel
theorem dX13_init_1072 : decode cX13_init 1072 = .ok (.iconst 5, 1) := by decide +kernel
theorem dX13_init_1073 : decode cX13_init 1073 = .ok (.bastore, 1) := by decide +kernel
theorem dX13_init_1074 : decode cX13_init 1074 = .ok (.dup, 1) := by decide +kernel
theorem dX13_init_1075 : decode cX13_init 1075 = .ok (.bipush 34, 2) := by decide +kernel
theorem dX13_init_1077 : decode cX13_init 1077 = .ok (.iconst 5, 1) := by decide +kernel
theorem dX13_init_1078 : decode cX13_init 1078 = .ok (.bastore, 1) := by decide +kernel
theorem dX13_init_1079 : decode cX13_init 1079 = .ok (.dup, 1) := by decide +kernel
theorem dX13_init_1080 : decode cX13_init 1080 = .ok (.bipush 35, 2) := by decide +kernel
theorem dX13_init_1082 : decode cX13_init 1082 = .ok (.iconst 5, 1) := by decide +kernel
theorem dX13_init_1083 : decode cX13_init 1083 = .ok (.bastore, 1) := by decide +kernel
theorem dX13_init_1084 : decode cX13_init 1084 = .ok (.dup, 1) := by decide +kernel
theorem dX13_init_1085 : decode cX13_init 1085 = .ok (.bipush 36, 2) := by decide +kernel
theorem dX13_init_1087 : decode cX13_init 1087 = .ok (.bipush 6, 2) := by decide +kernel
theorem dX13_init_1089 : decode cX13_init 1089 = .ok (.bastore, 1) := by decide +kernel
theorem dX13_init_1090 : decode cX13_init 1090 = .ok (.dup, 1) := by decide +kernel
theorem dX13_init_1091 : decode cX13_init 1091 = .ok (.bipush 37, 2) := by decide +kernel
theorem dX13_init_1093 : decode cX13_init 1093 = .ok (.bipush 6, 2) := by decide +kernel
theorem dX13_init_1095 : decode cX13_init 1095 = .ok (.bastore, 1) := by decide +kernel
theorem dX13_init_1096 : decode cX13_init 1096 = .ok (.dup, 1) := by decide +kernel
theorem dX13_init_1097 : decode cX13_init 1097 = .ok (.bipush 38, 2) := by decide +kernel
theorem dX13_init_1099 : decode cX13_init 1099 = .ok (.bipush 7, 2) := by decide +kernel
theorem dX13_init_1101 : decode cX13_init 1101 = .ok (.bastore, 1) := by decide +kernel
theorem dX13_init_1102 : decode cX13_init 1102 = .ok (.dup, 1) := by decide +kernel
theorem dX13_init_1103 : decode cX13_init 1103 = .ok (.bipush 39, 2) := by decide +kernel
theorem dX13_init_1105 : decode cX13_init 1105 = .ok (.bipush 7, 2) := by decide +kernel
theorem dX13_init_1107 : decode cX13_init 1107 = .ok (.bastore, 1) := by decide +kernel
theorem dX13_init_1108 : decode cX13_init 1108 = .ok (.dup, 1) := by decide +kernel
theorem dX13_init_1109 : decode cX13_init 1109 = .ok (.bipush 40, 2) := by decide +kernel
theorem dX13_init_1111 : decode cX13_init 1111 = .ok (.bipush 7, 2) := by decide +kernel
theorem dX13_init_1113 : decode cX13_init 1113 = .ok (.bastore, 1) := by decide +kernel
theorem dX13_init_1114 : decode cX13_init 1114 = .ok (.dup, 1) := by decide +kernel
theorem dX13_init_1115 : decode cX13_init 1115 = .ok (.bipush 41, 2) := by decide +kernel
theorem dX13_init_1117 : decode cX13_init 1117 = .ok (.bipush 7, 2) := by decide +kernel
theorem dX13_init_1119 : decode cX13_init 1119 = .ok (.bastore, 1) := by decide +kernel
theorem dX13_init_1120 : decode cX13_init 1120 = .ok (.dup, 1) := by decide +kernel
theorem dX13_init_1121 : decode cX13_init 1121 = .ok (.bipush 42, 2) := by decide +kernel
theorem dX13_init_1123 : decode cX13_init 1123 = .ok (.bipush 7, 2) := by decide +kernel
theorem dX13_init_1125 : decode cX13_init 1125 = .ok (.bastore, 1) := by decide +kernel
theorem dX13_init_1126 : decode cX13_init 1126 = .ok (.dup, 1) := by decide +kernel
theorem dX13_init_1127 : decode cX13_init 1127 = .ok (.bipush 43, 2) := by decide +kernel
theorem dX13_init_1129 : decode cX13_init 1129 = .ok (.bipush 7, 2) := by decide +kernel
theorem dX13_init_1131 : decode cX13_init 1131 = .ok (.bastore, 1) := by decide +kernel
theorem dX13_init_1132 : decode cX13_init 1132 = .ok (.dup, 1) := by decide +kernel
theorem dX13_init_1133 : decode cX13_init 1133 = .ok (.bipush 44, 2) := by decide +kernel
theorem dX13_init_1135 : decode cX13_init 1135 = .ok (.bipush 8, 2) := by decide +kernel
theorem dX13_init_1137 : decode cX13_init 1137 = .ok (.bastore, 1) := by decide +kernel
theorem dX13_init_1138 : decode cX13_init 1138 = .ok (.dup, 1) := by decide +kernel
theorem dX13_init_1139 : decode cX13_init 1139 = .ok (.bipush 45, 2) := by decide +kernel
theorem dX13_init_1141 : decode cX13_init 1141 = .ok (.bipush 9, 2) := by decide +kernel
theorem dX13_init_1143 : decode cX13_init 1143 = .ok (.bastore, 1) := by decide +kernel
theorem dX13_init_1144 : decode cX13_init 1144 = .ok (.dup, 1) := by decide +kernel
theorem dX13_init_1145 : decode cX13_init 1145 = .ok (.bipush 46, 2) := by decide +kernel
theorem dX13_init_1147 : decode cX13_init 1147 = .ok (.bipush 9, 2) := by decide +kernel
theorem dX13_init_1149 : decode cX13_init 1149 = .ok (.bastore, 1) := by decide +kernel
theorem dX13_init_1150 : decode cX13_init 1150 = .ok (.dup, 1) := by decide +kernel
theorem dX13_init_1151 : decode cX13_init 1151 = .ok (.bipush 47, 2) := by decide +kernel
theorem dX13_init_1153 : decode cX13_init 1153 = .ok (.bipush 9, 2) := by decide +kernel
theorem dX13_init_1155 : decode cX13_init 1155 = .ok (.bastore, 1) := by decide +kernel
theorem dX13_init_1156 : decode cX13_init 1156 = .ok (.dup, 1) := by decide +kernel
theorem dX13_init_1157 : decode cX13_init 1157 = .ok (.bipush 48, 2) := by decide +kernel
theorem dX13_init_1159 : decode cX13_init 1159 = .ok (.bipush 9, 2) := by decide +kernel
theorem dX13_init_1161 : decode cX13_init 1161 = .ok (.bastore, 1) := by decide +kernel
theorem dX13_init_1162 : decode cX13_init 1162 = .ok (.dup, 1) := by decide +kernel
theorem dX13_init_1163 : decode cX13_init 1163 = .ok (.bipush 49, 2) := by decide +kernel
theorem dX13_init_1165 : decode cX13_init 1165 = .ok (.bipush 9, 2) := by decide +kernel
theorem dX13_init_1167 : decode cX13_init 1167 = .ok (.bastore, 1) := by decide +kernel
theorem dX13_init_1168 : decode cX13_init 1168 = .ok (.dup, 1) := by decide +kernel
theorem dX13_init_1169 : decode cX13_init 1169 = .ok (.bipush 50, 2) := by decide +kernel
theorem dX13_init_1171 : decode cX13_init 1171 = .ok (.bipush 9, 2) := by decide +kernel
theorem dX13_init_1173 : decode cX13_init 1173 = .ok (.bastore, 1) := by decide +kernel
theorem dX13_init_1174 : decode cX13_init 1174 = .ok (.dup, 1) := by decide +kernel
theorem dX13_init_1175 : decode cX13_init 1175 = .ok (.bipush 51, 2) := by decide +kernel
theorem dX13_init_1177 : decode cX13_init 1177 = .ok (.bipush 9, 2) := by decide +kernel
theorem dX13_init_1179 : decode cX13_init 1179 = .ok (.bastore, 1) := by decide +kernel
theorem dX13_init_1180 : decode cX13_init 1180 = .ok (.dup, 1) := by decide +kernel
theorem dX13_init_1181 : decode cX13_init 1181 = .ok (.bipush 52, 2) := by decide +kernel
theorem dX13_init_1183 : decode cX13_init 1183 = .ok (.bipush 9, 2) := by decide +kernel
theorem dX13_init_1185 : decode cX13_init 1185 = .ok (.bastore, 1) := by decide +kernel
theorem dX13_init_1186 : decode cX13_init 1186 = .ok (.dup, 1) := by decide +kernel
theorem dX13_init_1187 : decode cX13_init 1187 = .ok (.bipush 53, 2) := by decide +kernel
theorem dX13_init_1189 : decode cX13_init 1189 = .ok (.bipush 9, 2) := by decide +kernel
theorem dX13_init_1191 : decode cX13_init 1191 = .ok (.bastore, 1) := by decide +kernel
theorem dX13_init_1192 : decode cX13_init 1192 = .ok (.dup, 1) := by decide +kernel
theorem dX13_init_1193 : decode cX13_init 1193 = .ok (.bipush 54, 2) := by decide +kernel
theorem dX13_init_1195 : decode cX13_init 1195 = .ok (.bipush 9, 2) := by decide +kernel
theorem dX13_init_1197 : decode cX13_init 1197 = .ok (.bastore, 1) := by decide +kernel
theorem dX13_init_1198 : decode cX13_init 1198 = .ok (.dup, 1) := by decide +kernel
theorem dX13_init_1199 : decode cX13_init 1199 = .ok (.bipush 55, 2) := by decide +kernel
theorem dX13_init_1201 : decode cX13_init 1201 = .ok (.bipush 10, 2) := by decide +kernel
theorem dX13_init_1203 : decode cX13_init 1203 = .ok (.bastore, 1) := by decide +kernel
theorem dX13_init_1204 : decode cX13_init 1204 = .ok (.dup, 1) := by decide +kernel
theorem dX13_init_1205 : decode cX13_init 1205 = .ok (.bipush 56, 2) := by decide +kernel
theorem dX13_init_1207 : decode cX13_init 1207 = .ok (.bipush 11, 2) := by decide +kernel
theorem dX13_init_1209 : decode cX13_init 1209 = .ok (.bastore, 1) := by decide +kernel
theorem dX13_init_1210 : decode cX13_init 1210 = .ok (.dup, 1) := by decide +kernel
theorem dX13_init_1211 : decode cX13_init 1211 = .ok (.bipush 57, 2) := by decide +kernel
theorem dX13_init_1213 : decode cX13_init 1213 = .ok (.bipush 11, 2) := by decide +kernel
theorem dX13_init_1215 : decode cX13_init 1215 = .ok (.bastore, 1) := by decide +kernel
theorem dX13_init_1216 : decode cX13_init 1216 = .ok (.dup, 1) := by decide +kernel
theorem dX13_init_1217 : decode cX13_init 1217 = .ok (.bipush 58, 2) := by decide +kernel
theorem dX13_init_1219 : decode cX13_init 1219 = .ok (.bipush 11, 2) := by decide +kernel
theorem dX13_init_1221 : decode cX13_init 1221 = .ok (.bastore, 1) := by decide +kernel
theorem dX13_init_1222 : decode cX13_init 1222 = .ok (.dup, 1) := by decide +kernel
theorem dX13_init_1223 : decode cX13_init 1223 = .ok (.bipush 59, 2) := by decide +kernel
theorem dX13_init_1225 : decode cX13_init 1225 = .ok (.bipush 11, 2) := by decide +kernel
theorem dX13_init_1227 : decode cX13_init 1227 = .ok (.bastore, 1) := by decide +kernel
theorem dX13_init_1228 : decode cX13_init 1228 = .ok (.dup, 1) := by decide +kernel
theorem dX13_init_1229 : decode cX13_init 1229 = .ok (.bipush 60, 2) := by decide +kernel
theorem dX13_init_1231 : decode cX13_init 1231 = .ok (.bipush 11, 2) := by decide +kernel
theorem dX13_init_1233 : decode cX13_init 1233 = .ok (.bastore, 1) := by decide +kernel
theorem dX13_init_1234 : decode cX13_init 1234 = .ok (.dup, 1) := by decide +kernel
theorem dX13_init_1235 : decode cX13_init 1235 = .ok (.bipush 61, 2) := by decide +kernel
theorem dX13_init_1237 : decode cX13_init 1237 = .ok (.bipush 11, 2) := by decide +kernel
theorem dX13_init_1239 : decode cX13_init 1239 = .ok (.bastore, 1) := by decide +kernel
theorem dX13_init_1240 : decode cX13_init 1240 = .ok (.dup, 1) := by decide +kernel
theorem dX13_init_1241 : decode cX13_init 1241 = .ok (.bipush 62, 2) := by decide +kernel
theorem dX13_init_1243 : decode cX13_init 1243 = .ok (.bipush 12, 2) := by decide +kernel
theorem dX13_init_1245 : decode cX13_init 1245 = .ok (.bastore, 1) := by decide +kernel
theorem dX13_init_1246 : decode cX13_init 1246 = .ok (.dup, 1) := by decide +kernel
theorem dX13_init_1247 : decode cX13_init 1247 = .ok (.bipush 63, 2) := by decide +kernel
theorem dX13_init_1249 : decode cX13_init 1249 = .ok (.bipush 12, 2) := by decide +kernel
theorem dX13_init_1251 : decode cX13_init 1251 = .ok (.bastore, 1) := by decide +kernel
theorem dX13_init_1252 : decode cX13_init 1252 = .ok (.dup, 1) := by decide +kernel
theorem dX13_init_1253 : decode cX13_init 1253 = .ok (.bipush 64, 2) := by decide +kernel
theorem dX13_init_1255 : decode cX13_init 1255 = .ok (.bipush 12, 2) := by decide +kernel
theorem dX13_init_1257 : decode cX13_init 1257 = .ok (.bastore, 1) := by decide +kernel
theorem dX13_init_1258 : decode cX13_init 1258 = .ok (.dup, 1) := by decide +kernel
theorem dX13_init_1259 : decode cX13_init 1259 = .ok (.bipush 65, 2) := by decide +kernel
theorem dX13_init_1261 : decode cX13_init 1261 = .ok (.bipush 12, 2) := by decide +kernel
theorem dX13_init_1263 : decode cX13_init 1263 = .ok (.bastore, 1) := by decide +kernel
theorem dX13_init_1264 : decode cX13_init 1264 = .ok (.dup, 1) := by decide +kernel
theorem dX13_init_1265 : decode cX13_init 1265 = .ok (.bipush 66, 2) := by decide +kernel
theorem dX13_init_1267 : decode cX13_init 1267 = .ok (.bipush 12, 2) := by decide +kernel
theorem dX13_init_1269 : decode cX13_init 1269 = .ok (.bastore, 1) := by decide +kernel
theorem dX13_init_1270 : decode cX13_init 1270 = .ok (.dup, 1) := by decide +kernel
theorem dX13_init_1271 : decode cX13_init 1271 = .ok (.bipush 67, 2) := by decide +kernel
theorem dX13_init_1273 : decode cX13_init 1273 = .ok (.bipush 12, 2) := by decide +kernel
theorem dX13_init_1275 : decode cX13_init 1275 = .ok (.bastore, 1) := by decide +kernel
theorem dX13_init_1276 : decode cX13_init 1276 = .ok (.dup, 1) := by decide +kernel
theorem dX13_init_1277 : decode cX13_init 1277 = .ok (.bipush 68, 2) := by decide +kernel
theorem dX13_init_1279 : decode cX13_init 1279 = .ok (.bipush 13, 2) := by decide +kernel
theorem dX13_init_1281 : decode cX13_init 1281 = .ok (.bastore, 1) := by decide +kernel
theorem dX13_init_1282 : decode cX13_init 1282 = .ok (.dup, 1) := by decide +kernel
theorem dX13_init_1283 : decode cX13_init 1283 = .ok (.bipush 69, 2) := by decide +kernel
theorem dX13_init_1285 : decode cX13_init 1285 = .ok (.bipush 14, 2) := by decide +kernel
theorem dX13_init_1287 : decode cX13_init 1287 = .ok (.bastore, 1) := by decide +kernel
theorem dX13_init_1288 : decode cX13_init 1288 = .ok (.dup, 1) := by decide +kernel
theorem dX13_init_1289 : decode cX13_init 1289 = .ok (.bipush 70, 2) := by decide +kernel
theorem dX13_init_1291 : decode cX13_init 1291 = .ok (.bipush 14, 2) := by decide +kernel
theorem dX13_init_1293 : decode cX13_init 1293 = .ok (.bastore, 1) := by decide +kernel
theorem dX13_init_1294 : decode cX13_init 1294 = .ok (.dup, 1) := by decide +kernel
theorem dX13_init_1295 : decode cX13_init 1295 = .ok (.bipush 71, 2) := by decide +kernel
theorem dX13_init_1297 : decode cX13_init 1297 = .ok (.bipush 16, 2) := by decide +kernel
theorem dX13_init_1299 : decode cX13_init 1299 = .ok (.bastore, 1) := by decide +kernel
theorem dX13_init_1300 : decode cX13_init 1300 = .ok (.dup, 1) := by decide +kernel
theorem dX13_init_1301 : decode cX13_init 1301 = .ok (.bipush 72, 2) := by decide +kernel
theorem dX13_init_1303 : decode cX13_init 1303 = .ok (.bipush 16, 2) := by decide +kernel
theorem dX13_init_1305 : decode cX13_init 1305 = .ok (.bastore, 1) := by decide +kernel
theorem dX13_init_1306 : decode cX13_init 1306 = .ok (.dup, 1) := by decide +kernel
theorem dX13_init_1307 : decode cX13_init 1307 = .ok (.bipush 73, 2) := by decide +kernel
theorem dX13_init_1309 : decode cX13_init 1309 = .ok (.bipush 17, 2) := by decide +kernel
theorem dX13_init_1311 : decode cX13_init 1311 = .ok (.bastore, 1) := by decide +kernel
theorem dX13_init_1312 : decode cX13_init 1312 = .ok (.dup, 1) := by decide +kernel
theorem dX13_init_1313 : decode cX13_init 1313 = .ok (.bipush 74, 2) := by decide +kernel
theorem dX13_init_1315 : decode cX13_init 1315 = .ok (.bipush 17, 2) := by decide +kernel
theorem dX13_init_1317 : decode cX13_init 1317 = .ok (.bastore, 1) := by decide +kernel
theorem dX13_init_1318 : decode cX13_init 1318 = .ok (.dup, 1) := by decide +kernel
theorem dX13_init_1319 : decode cX13_init 1319 = .ok (.bipush 75, 2) := by decide +kernel
theorem dX13_init_1321 : decode cX13_init 1321 = .ok (.bipush 18, 2) := by decide +kernel
theorem dX13_init_1323 : decode cX13_init 1323 = .ok (.bastore, 1) := by decide +kernel
theorem dX13_init_1324 : decode cX13_init 1324 = .ok (.dup, 1) := by decide +kernel
theorem dX13_init_1325 : decode cX13_init 1325 = .ok (.bipush 76, 2) := by decide +kernel
theorem dX13_init_1327 : decode cX13_init 1327 = .ok (.bipush 19, 2) := by decide +kernel
theorem dX13_init_1329 : decode cX13_init 1329 = .ok (.bastore, 1) := by decide +kernel
theorem dX13_init_1330 : decode cX13_init 1330 = .ok (.dup, 1) := by decide +kernel
theorem dX13_init_1331 : decode cX13_init 1331 = .ok (.bipush 77, 2) := by decide +kernel
theorem dX13_init_1333 : decode cX13_init 1333 = .ok (.bipush 19, 2) := by decide +kernel
theorem dX13_init_1335 : decode cX13_init 1335 = .ok (.bastore, 1) := by decide +kernel
theorem dX13_init_1336 : decode cX13_init 1336 = .ok (.dup, 1) := by decide +kernel
theorem dX13_init_1337 : decode cX13_init 1337 = .ok (.bipush 78, 2) := by decide +kernel
theorem dX13_init_1339 : decode cX13_init 1339 = .ok (.bipush 20, 2) := by decide +kernel
theorem dX13_init_1341 : decode cX13_init 1341 = .ok (.bastore, 1) := by decide +kernel
theorem dX13_init_1342 : decode cX13_init 1342 = .ok (.dup, 1) := by decide +kernel
theorem dX13_init_1343 : decode cX13_init 1343 = .ok (.bipush 79, 2) := by decide +kernel
theorem dX13_init_1345 : decode cX13_init 1345 = .ok (.bipush 21, 2) := by decide +kernel
theorem dX13_init_1347 : decode cX13_init 1347 = .ok (.bastore, 1) := by decide +kernel
theorem dX13_init_1348 : decode cX13_init 1348 = .ok (.dup, 1) := by decide +kernel
theorem dX13_init_1349 : decode cX13_init 1349 = .ok (.bipush 80, 2) := by decide +kernel
theorem dX13_init_1351 : decode cX13_init 1351 = .ok (.bipush 21, 2) := by decide +kernel
theorem dX13_init_1353 : decode cX13_init 1353 = .ok (.bastore, 1) := by decide +kernel
theorem dX13_init_1354 : decode cX13_init 1354 = .ok (.dup, 1) := by decide +kernel
theorem dX13_init_1355 : decode cX13_init 1355 = .ok (.bipush 81, 2) := by decide +kernel
theorem dX13_init_1357 : decode cX13_init 1357 = .ok (.bipush 22, 2) := by decide +kernel
theorem dX13_init_1359 : decode cX13_init 1359 = .ok (.bastore, 1) := by decide +kernel
theorem dX13_init_1360 : decode cX13_init 1360 = .ok (.dup, 1) := by decide +kernel
theorem dX13_init_1361 : decode cX13_init 1361 = .ok (.bipush 82, 2) := by decide +kernel
theorem dX13_init_1363 : decode cX13_init 1363 = .ok (.bipush 23, 2) := by decide +kernel
theorem dX13_init_1365 : decode cX13_init 1365 = .ok (.bastore, 1) := by decide +kernel
theorem dX13_init_1366 : decode cX13_init 1366 = .ok (.dup, 1) := by decide +kernel
theorem dX13_init_1367 : decode cX13_init 1367 = .ok (.bipush 83, 2) := by decide +kernel
theorem dX13_init_1369 : decode cX13_init 1369 = .ok (.bipush 23, 2) := by decide +kernel
theorem dX13_init_1371 : decode cX13_init 1371 = .ok (.bastore, 1) := by decide +kernel
theorem dX13_init_1372 : decode cX13_init 1372 = .ok (.dup, 1) := by decide +kernel
theorem dX13_init_1373 : decode cX13_init 1373 = .ok (.bipush 84, 2) := by decide +kernel
theorem dX13_init_1375 : decode cX13_init 1375 = .ok (.bipush 23, 2) := by decide +kernel
theorem dX13_init_1377 : decode cX13_init 1377 = .ok (.bastore, 1) := by decide +kernel
theorem dX13_init_1378 : decode cX13_init 1378 = .ok (.dup, 1) := by decide +kernel
theorem dX13_init_1379 : decode cX13_init 1379 = .ok (.bipush 85, 2) := by decide +kernel
theorem dX13_init_1381 : decode cX13_init 1381 = .ok (.bipush 23, 2) := by decide +kernel
theorem dX13_init_1383 : decode cX13_init 1383 = .ok (.bastore, 1) := by decide +kernel
theorem dX13_init_1384 : decode cX13_init 1384 = .ok (.dup, 1) := by decide +kernel
theorem dX13_init_1385 : decode cX13_init 1385 = .ok (.bipush 86, 2) := by decide +kernel
theorem dX13_init_1387 : decode cX13_init 1387 = .ok (.bipush 24, 2) := by decide +kernel
theorem dX13_init_1389 : decode cX13_init 1389 = .ok (.bastore, 1) := by decide +kernel
theorem dX13_init_1390 : decode cX13_init 1390 = .ok (.dup, 1) := by decide +kernel
theorem dX13_init_1391 : decode cX13_init 1391 = .ok (.bipush 87, 2) := by decide +kernel
theorem dX13_init_1393 : decode cX13_init 1393 = .ok (.bipush 24, 2) := by decide +kernel
theorem dX13_init_1395 : decode cX13_init 1395 = .ok (.bastore, 1) := by decide +kernel
theorem dX13_init_1396 : decode cX13_init 1396 = .ok (.dup, 1) := by decide +kernel
theorem dX13_init_1397 : decode cX13_init 1397 = .ok (.bipush 88, 2) := by decide +kernel
theorem dX13_init_1399 : decode cX13_init 1399 = .ok (.bipush 25, 2) := by decide +kernel
theorem dX13_init_1401 : decode cX13_init 1401 = .ok (.bastore, 1) := by decide +kernel
theorem dX13_init_1402 : decode cX13_init 1402 = .ok (.dup, 1) := by decide +kernel
theorem dX13_init_1403 : decode cX13_init 1403 = .ok (.bipush 89, 2) := by decide +kernel
theorem dX13_init_1405 : decode cX13_init 1405 = .ok (.bipush 26, 2) := by decide +kernel
theorem dX13_init_1407 : decode cX13_init 1407 = .ok (.bastore, 1) := by decide +kernel
theorem dX13_init_1408 : decode cX13_init 1408 = .ok (.dup, 1) := by decide +kernel
theorem dX13_init_1409 : decode cX13_init 1409 = .ok (.bipush 90, 2) := by decide +kernel
theorem dX13_init_1411 : decode cX13_init 1411 = .ok (.bipush 27, 2) := by decide +kernel
theorem dX13_init_1413 : decode cX13_init 1413 = .ok (.bastore, 1) := by decide +kernel
theorem dX13_init_1414 : decode cX13_init 1414 = .ok (.dup, 1) := by decide +kernel
theorem dX13_init_1415 : decode cX13_init 1415 = .ok (.bipush 91, 2) := by decide +kernel
theorem dX13_init_1417 : decode cX13_init 1417 = .ok (.bipush 27, 2) := by decide +kernel
theorem dX13_init_1419 : decode cX13_init 1419 = .ok (.bastore, 1) := by decide +kernel
theorem dX13_init_1420 : decode cX13_init 1420 = .ok (.dup, 1) := by decide +kernel
theorem dX13_init_1421 : decode cX13_init 1421 = .ok (.bipush 92, 2) := by decide +kernel
theorem dX13_init_1423 : decode cX13_init 1423 = .ok (.bipush 28, 2) := by decide +kernel
theorem dX13_init_1425 : decode cX13_init 1425 = .ok (.bastore, 1) := by decide +kernel
theorem dX13_init_1426 : decode cX13_init 1426 = .ok (.dup, 1) := by decide +kernel
theorem dX13_init_1427 : decode cX13_init 1427 = .ok (.bipush 93, 2) := by decide +kernel
theorem dX13_init_1429 : decode cX13_init 1429 = .ok (.bipush 28, 2) := by decide +kernel
theorem dX13_init_1431 : decode cX13_init 1431 = .ok (.bastore, 1) := by decide +kernel
theorem dX13_init_1432 : decode cX13_init 1432 = .ok (.dup, 1) := by decide +kernel
theorem dX13_init_1433 : decode cX13_init 1433 = .ok (.bipush 94, 2) := by decide +kernel
theorem dX13_init_1435 : decode cX13_init 1435 = .ok (.bipush 29, 2) := by decide +kernel
theorem dX13_init_1437 : decode cX13_init 1437 = .ok (.bastore, 1) := by decide +kernel
theorem dX13_init_1438 : decode cX13_init 1438 = .ok (.dup, 1) := by decide +kernel
theorem dX13_init_1439 : decode cX13_init 1439 = .ok (.bipush 95, 2) := by decide +kernel
theorem dX13_init_1441 : decode cX13_init 1441 = .ok (.bipush 31, 2) := by decide +kernel
theorem dX13_init_1443 : decode cX13_init 1443 = .ok (.bastore, 1) := by decide +kernel
theorem dX13_init_1444 : decode cX13_init 1444 = .ok (.dup, 1) := by decide +kernel
theorem dX13_init_1445 : decode cX13_init 1445 = .ok (.bipush 96, 2) := by decide +kernel
theorem dX13_init_1447 : decode cX13_init 1447 = .ok (.bipush 31, 2) := by decide +kernel
theorem dX13_init_1449 : decode cX13_init 1449 = .ok (.bastore, 1) := by decide +kernel
theorem dX13_init_1450 : decode cX13_init 1450 = .ok (.dup, 1) := by decide +kernel
theorem dX13_init_1451 : decode cX13_init 1451 = .ok (.bipush 97, 2) := by decide +kernel
theorem dX13_init_1453 : decode cX13_init 1453 = .ok (.bipush 31, 2) := by decide +kernel
theorem dX13_init_1455 : decode cX13_init 1455 = .ok (.bastore, 1) := by decide +kernel
theorem dX13_init_1456 : decode cX13_init 1456 = .ok (.dup, 1) := by decide +kernel
theorem dX13_init_1457 : decode cX13_init 1457 = .ok (.bipush 98, 2) := by decide +kernel
theorem dX13_init_1459 : decode cX13_init 1459 = .ok (.bipush 31, 2) := by decide +kernel
theorem dX13_init_1461 : decode cX13_init 1461 = .ok (.bastore, 1) := by decide +kernel
theorem dX13_init_1462 : decode cX13_init 1462 = .ok (.dup, 1) := by decide +kernel
theorem dX13_init_1463 : decode cX13_init 1463 = .ok (.bipush 99, 2) := by decide +kernel
theorem dX13_init_1465 : decode cX13_init 1465 = .ok (.bipush 32, 2) := by decide +kernel
theorem dX13_init_1467 : decode cX13_init 1467 = .ok (.bastore, 1) := by decide +kernel
theorem dX13_init_1468 : decode cX13_init 1468 = .ok (.dup, 1) := by decide +kernel
