set_option maxRecDepth 20000 in
theorem ggL_law_X10_barred : GoodIn wsL_law wsX10_barred := goodIn_r _ [974, 200, 465, 466, 467, 2, 468, 28, 448, 201, 202, 203, 303, 304, 305, 975, 976, 977, 978, 52, 32, 494, 24, 979, 980, 981, 982, 51, 983, 965, 140, 141, 139, 495, 496, 497, 31, 498, 476, 102, 100, 98, 99, 499, 500, 501, 502, 97, 101, 348, 349, 350, 23, 351, 78, 79, 310, 74, 75, 77, 76, 352, 68, 69, 70, 353, 354, 355, 356, 357, 358, 359, 80, 360, 361, 362, 363, 81, 364, 265, 266, 267, 365, 366, 438, 383, 384, 385, 386, 387, 388, 389, 390, 391, 392, 393, 394, 395, 396, 397, 398, 399, 400, 368, 369, 370, 1142, 1143, 1144, 1145, 1146, 1147, 1148, 1149, 1150, 1151, 1152, 1153, 1154, 1155, 1232, 1233, 1234, 1235, 1236, 1237, 1276, 1277, 1278, 1279, 1238, 1239, 1240, 1241, 1242, 1243, 1244, 1223, 1224, 1225, 1226, 1227, 1228, 1229, 1230, 1231] (by decide +kernel) (by decide +kernel)
set_option maxRecDepth 20000 in
theorem gL_law_X10_barred : GoodIn wsL_law (wsV RL 150 RX10 yX10_barred wsX10_barred) := goodIn_app (goodIn_of _ (by decide +kernel)) ggL_law_X10_barred
set_option maxRecDepth 20000 in
theorem ggL_law_X11_barred : GoodIn wsL_law wsX11_barred := goodIn_r _ [987, 222, 224, 486, 487, 488, 5, 489, 459, 230, 231, 232, 330, 331, 332, 333, 988, 989, 990, 991, 970, 190, 191, 189, 992, 507, 508, 509, 510, 164, 511, 194, 485, 166, 170, 169, 167, 168, 409, 410, 411, 412, 413, 414, 415, 416, 417, 160, 375, 376, 377, 378, 320, 156, 157, 159, 158, 418, 419, 420, 421, 161, 163, 422, 162, 319, 423, 1156, 1157, 1158, 1159, 1160, 1161, 1162, 1163, 1164, 1165, 1166, 1167, 1168, 1169, 1170, 1171, 1172, 1173, 1174, 1175, 1176, 1177, 1178, 1179, 1180, 1181, 1182, 1183, 1184, 1185, 1186, 1187, 1188, 1189, 1190, 1191, 1192, 1193, 1194, 1195, 1196, 1197, 1198, 1199, 1200, 1201, 1202, 1203, 1204, 1205, 1206, 1207, 1208, 1209, 1210, 1211, 1212, 1213, 1214, 1215, 1216, 1217, 1218, 1219] (by decide +kernel) (by decide +kernel)
set_option maxRecDepth 20000 in
theorem gL_law_X11_barred : GoodIn wsL_law (wsV RL 153 RX11 yX11_barred wsX11_barred) := goodIn_app (goodIn_of _ (by decide +kernel)) ggL_law_X11_barred
set_option maxRecDepth 20000 in
theorem ggL_law_X10_day : GoodIn wsL_law wsX10_day := goodIn_r _ [996, 200, 997, 303, 304, 2, 305, 201, 202, 203, 1142, 1143, 1144, 1145, 1146, 1147, 1148, 1149, 1150, 1151, 1152, 1153, 1154, 1155] (by decide +kernel) (by decide +kernel)
set_option maxRecDepth 20000 in
theorem gL_law_X10_day : GoodIn wsL_law (wsV RL 154 RX10 yX10_day wsX10_day) := goodIn_app (goodIn_of _ (by decide +kernel)) ggL_law_X10_day
set_option maxRecDepth 20000 in
theorem ggL_law_X11_day : GoodIn wsL_law wsX11_day := goodIn_r _ [1001, 222, 224, 1002, 330, 331, 5, 332, 333, 230, 231, 232, 1156, 1157, 1158, 1159, 1160, 1161, 1162, 1163, 1164, 1165, 1166, 1167, 1168, 1169, 1170, 1171, 1172, 1173, 1174, 1175, 1176, 1177, 1178, 1179, 1180, 1181, 1182, 1183, 1184, 1185, 1186, 1187, 1188, 1189, 1190, 1191, 1192, 1193, 1194, 1195, 1196, 1197, 1198, 1199, 1200, 1201, 1202, 1203, 1204, 1205, 1206, 1207, 1208, 1209, 1210, 1211, 1212, 1213, 1214, 1215, 1216, 1217, 1218, 1219] (by decide +kernel) (by decide +kernel)
set_option maxRecDepth 20000 in
theorem gL_law_X11_day : GoodIn wsL_law (wsV RL 157 RX11 yX11_day wsX11_day) := goodIn_app (goodIn_of _ (by decide +kernel)) ggL_law_X11_day
set_option maxRecDepth 20000 in
theorem ggL_law_X10_kind : GoodIn wsL_law wsX10_kind := goodIn_r _ [1006, 200, 465, 466, 467, 2, 468, 28, 448, 201, 202, 203, 1007, 1008, 1009, 1010, 997, 36, 544, 975, 976, 977, 978, 52, 32, 494, 24, 979, 980, 981, 982, 51, 983, 965, 140, 141, 139, 495, 496, 497, 31, 498, 476, 102, 100, 98, 99, 499, 500, 501, 502, 97, 101, 348, 349, 350, 23, 351, 78, 79, 310, 74, 75, 77, 76, 352, 68, 69, 70, 353, 354, 355, 356, 357, 358, 359, 80, 360, 361, 362, 363, 81, 364, 265, 266, 267, 365, 366, 438, 383, 384, 385, 386, 387, 388, 389, 390, 391, 392, 393, 394, 395, 396, 397, 398, 399, 400, 368, 369, 370, 1011, 1012, 1013, 35, 1014, 533, 107, 549, 550, 551, 552, 106, 109, 1142, 1143, 1144, 1145, 1146, 1147, 1148, 1149, 1150, 1151, 1152, 1153, 1154, 1155, 1232, 1233, 1234, 1235, 1236, 1237, 1276, 1277, 1278, 1279, 1238, 1239, 1240, 1241, 1242, 1243, 1244, 1223, 1224, 1225, 1226, 1227, 1228, 1229, 1230, 1231, 1245, 1246, 1247, 1248, 1249, 1250] (by decide +kernel) (by decide +kernel)
set_option maxRecDepth 20000 in
theorem gL_law_X10_kind : GoodIn wsL_law (wsV RL 158 RX10 yX10_kind wsX10_kind) := goodIn_app (goodIn_of _ (by decide +kernel)) ggL_law_X10_kind
set_option maxRecDepth 20000 in
theorem ggL_law_X11_kind : GoodIn wsL_law wsX11_kind := goodIn_r _ [1018, 222, 224, 486, 487, 488, 5, 489, 459, 230, 231, 232, 1019, 1020, 1021, 1022, 1002, 165, 1023, 1024, 1025, 1026, 538, 171, 174, 172, 988, 989, 990, 991, 970, 190, 191, 189, 992, 507, 508, 509, 510, 164, 511, 194, 485, 166, 170, 169, 167, 168, 409, 410, 411, 412, 413, 414, 415, 416, 417, 160, 375, 376, 377, 378, 320, 156, 157, 159, 158, 418, 419, 420, 421, 161, 163, 422, 162, 319, 423, 1156, 1157, 1158, 1159, 1160, 1161, 1162, 1163, 1164, 1165, 1166, 1167, 1168, 1169, 1170, 1171, 1172, 1173, 1174, 1175, 1176, 1177, 1178, 1179, 1180, 1181, 1182, 1183, 1184, 1185, 1186, 1187, 1188, 1189, 1190, 1191, 1192, 1193, 1194, 1195, 1196, 1197, 1198, 1199, 1200, 1201, 1202, 1203, 1204, 1205, 1206, 1207, 1208, 1209, 1210, 1211, 1212, 1213, 1214, 1215, 1216, 1217, 1218, 1219] (by decide +kernel) (by decide +kernel)
set_option maxRecDepth 20000 in
theorem gL_law_X11_kind : GoodIn wsL_law (wsV RL 161 RX11 yX11_kind wsX11_kind) := goodIn_app (goodIn_of _ (by decide +kernel)) ggL_law_X11_kind
set_option maxRecDepth 20000 in
theorem ggL_law_X10_as : GoodIn wsL_law wsX10_as := goodIn_r _ [1030, 200, 28, 544, 465, 466, 467, 2, 468, 448, 201, 202, 203, 1007, 1008, 1009, 1010, 997, 36, 975, 976, 977, 978, 52, 32, 494, 24, 979, 980, 981, 982, 51, 983, 965, 140, 141, 139, 495, 496, 497, 31, 498, 476, 102, 100, 98, 99, 499, 500, 501, 502, 97, 101, 348, 349, 350, 23, 351, 78, 79, 310, 74, 75, 77, 76, 352, 68, 69, 70, 353, 354, 355, 356, 357, 358, 359, 80, 360, 361, 362, 363, 81, 364, 265, 266, 267, 365, 366, 438, 383, 384, 385, 386, 387, 388, 389, 390, 391, 392, 393, 394, 395, 396, 397, 398, 399, 400, 368, 369, 370, 1011, 1012, 1013, 35, 1014, 533, 107, 549, 550, 551, 552, 106, 109, 1031, 1032, 1033, 204, 205, 206, 207, 208, 209, 214, 215, 216, 217, 1142, 1143, 1144, 1145, 1146, 1147, 1148, 1149, 1150, 1151, 1152, 1153, 1154, 1155, 1232, 1233, 1234, 1235, 1236, 1237, 1276, 1277, 1278, 1279, 1238, 1239, 1240, 1241, 1242, 1243, 1244, 1223, 1224, 1225, 1226, 1227, 1228, 1229, 1230, 1231, 1245, 1246, 1247, 1248, 1249, 1250] (by decide +kernel) (by decide +kernel)
set_option maxRecDepth 20000 in
theorem gL_law_X10_as : GoodIn wsL_law (wsV RL 162 RX10 yX10_as wsX10_as) := goodIn_app (goodIn_of _ (by decide +kernel)) ggL_law_X10_as
set_option maxRecDepth 20000 in
theorem ggL_law_X11_as : GoodIn wsL_law wsX11_as := goodIn_r _ [1037, 222, 1038, 224, 225, 165, 486, 487, 488, 5, 489, 459, 230, 231, 232, 1019, 1020, 1021, 1022, 1002, 1023, 1024, 1025, 1026, 538, 171, 174, 172, 988, 989, 990, 991, 970, 190, 191, 189, 992, 507, 508, 509, 510, 164, 511, 194, 485, 166, 170, 169, 167, 168, 409, 410, 411, 412, 413, 414, 415, 416, 417, 160, 375, 376, 377, 378, 320, 156, 157, 159, 158, 418, 419, 420, 421, 161, 163, 422, 162, 319, 423, 1039, 1040, 1041, 233, 234, 235, 236, 237, 1156, 1157, 1158, 1159, 1160, 1161, 1162, 1163, 1164, 1165, 1166, 1167, 1168, 1169, 1170, 1171, 1172, 1173, 1174, 1175, 1176, 1177, 1178, 1179, 1180, 1181, 1182, 1183, 1184, 1185, 1186, 1187, 1188, 1189, 1190, 1191, 1192, 1193, 1194, 1195, 1196, 1197, 1198, 1199, 1200, 1201, 1202, 1203, 1204, 1205, 1206, 1207, 1208, 1209, 1210, 1211, 1212, 1213, 1214, 1215, 1216, 1217, 1218, 1219] (by decide +kernel) (by decide +kernel)
set_option maxRecDepth 20000 in
theorem gL_law_X11_as : GoodIn wsL_law (wsV RL 165 RX11 yX11_as wsX11_as) := goodIn_app (goodIn_of _ (by decide +kernel)) ggL_law_X11_as
set_option maxRecDepth 20000 in
theorem ggL_law_X10_ask : GoodIn wsL_law wsX10_ask := goodIn_r _ [1045, 200, 1046, 465, 466, 467, 2, 468, 28, 448, 201, 202, 203, 1007, 1008, 1009, 1010, 997, 36, 544, 975, 976, 977, 978, 52, 32, 494, 24, 979, 980, 981, 982, 51, 983, 965, 140, 141, 139, 495, 496, 497, 31, 498, 476, 102, 100, 98, 99, 499, 500, 501, 502, 97, 101, 348, 349, 350, 23, 351, 78, 79, 310, 74, 75, 77, 76, 352, 68, 69, 70, 353, 354, 355, 356, 357, 358, 359, 80, 360, 361, 362, 363, 81, 364, 265, 266, 267, 365, 366, 438, 383, 384, 385, 386, 387, 388, 389, 390, 391, 392, 393, 394, 395, 396, 397, 398, 399, 400, 368, 369, 370, 1011, 1012, 1013, 35, 1014, 533, 107, 549, 550, 551, 552, 106, 109, 1047, 1048, 1049, 1050, 1051, 1052, 1053, 1054, 1055, 1056, 1057, 1058, 54, 1059, 1060, 1061, 1062, 1063, 1064, 1065, 1066, 1067, 1068, 1069, 1070, 1071, 1072, 1073, 1074, 1075, 1076, 1077, 1078, 1079, 1080, 1081, 1082, 1083, 1084, 1085, 1086, 1087, 1088, 1089, 1090, 1142, 1143, 1144, 1145, 1146, 1147, 1148, 1149, 1150, 1151, 1152, 1153, 1154, 1155, 1232, 1233, 1234, 1235, 1236, 1237, 1276, 1277, 1278, 1279, 1238, 1239, 1240, 1241, 1242, 1243, 1244, 1223, 1224, 1225, 1226, 1227, 1228, 1229, 1230, 1231, 1245, 1246, 1247, 1248, 1249, 1250] (by decide +kernel) (by decide +kernel)
set_option maxRecDepth 20000 in
theorem gL_law_X10_ask : GoodIn wsL_law (wsV RL 166 RX10 yX10_ask wsX10_ask) := goodIn_app (goodIn_of _ (by decide +kernel)) ggL_law_X10_ask
set_option maxRecDepth 20000 in
theorem ggL_law_X11_ask : GoodIn wsL_law wsX11_ask := goodIn_r _ [1094, 222, 224, 1095, 486, 487, 488, 5, 489, 459, 230, 231, 232, 1019, 1020, 1021, 1022, 1002, 165, 1023, 1024, 1025, 1026, 538, 171, 174, 172, 988, 989, 990, 991, 970, 190, 191, 189, 992, 507, 508, 509, 510, 164, 511, 194, 485, 166, 170, 169, 167, 168, 409, 410, 411, 412, 413, 414, 415, 416, 417, 160, 375, 376, 377, 378, 320, 156, 157, 159, 158, 418, 419, 420, 421, 161, 163, 422, 162, 319, 423, 1096, 1097, 1098, 1099, 1100, 1101, 1102, 1103, 192, 1104, 1105, 1106, 1107, 1039, 1040, 1041, 1108, 1109, 1110, 1111, 1156, 1157, 1158, 1159, 1160, 1161, 1162, 1163, 1164, 1165, 1166, 1167, 1168, 1169, 1170, 1171, 1172, 1173, 1174, 1175, 1176, 1177, 1178, 1179, 1180, 1181, 1182, 1183, 1184, 1185, 1186, 1187, 1188, 1189, 1190, 1191, 1192, 1193, 1194, 1195, 1196, 1197, 1198, 1199, 1200, 1201, 1202, 1203, 1204, 1205, 1206, 1207, 1208, 1209, 1210, 1211, 1212, 1213, 1214, 1215, 1216, 1217, 1218, 1219] (by decide +kernel) (by decide +kernel)
set_option maxRecDepth 20000 in
theorem gL_law_X11_ask : GoodIn wsL_law (wsV RL 169 RX11 yX11_ask wsX11_ask) := goodIn_app (goodIn_of _ (by decide +kernel)) ggL_law_X11_ask
set_option maxRecDepth 20000 in
theorem ggL_law_X10_trace : GoodIn wsL_law wsX10_trace := goodIn_r _ [1115, 1046, 54, 428, 201, 202, 2, 203, 1142, 1143, 1144, 1145, 1146, 1147, 1148, 1149, 1150, 1151, 1152, 1153, 1154, 1155] (by decide +kernel) (by decide +kernel)
set_option maxRecDepth 20000 in
theorem gL_law_X10_trace : GoodIn wsL_law (wsV RL 170 RX10 yX10_trace wsX10_trace) := goodIn_app (goodIn_of _ (by decide +kernel)) ggL_law_X10_trace
set_option maxRecDepth 20000 in
theorem ggL_law_X11_trace : GoodIn wsL_law wsX11_trace := goodIn_r _ [1119, 222, 1095, 192, 194, 230, 231, 5, 232, 1156, 1157, 1158, 1159, 1160, 1161, 1162, 1163, 1164, 1165, 1166, 1167, 1168, 1169, 1170, 1171, 1172, 1173, 1174, 1175, 1176, 1177, 1178, 1179, 1180, 1181, 1182, 1183, 1184, 1185, 1186, 1187, 1188, 1189, 1190, 1191, 1192, 1193, 1194, 1195, 1196, 1197, 1198, 1199, 1200, 1201, 1202, 1203, 1204, 1205, 1206, 1207, 1208, 1209, 1210, 1211, 1212, 1213, 1214, 1215, 1216, 1217, 1218, 1219] (by decide +kernel) (by decide +kernel)
set_option maxRecDepth 20000 in
theorem gL_law_X11_trace : GoodIn wsL_law (wsV RL 173 RX11 yX11_trace wsX11_trace) := goodIn_app (goodIn_of _ (by decide +kernel)) ggL_law_X11_trace
set_option maxRecDepth 20000 in
theorem ggL_law_X10_count : GoodIn wsL_law wsX10_count := goodIn_r _ [1123, 20, 24, 289, 28, 448, 32, 464, 36, 528, 40, 1124, 44, 753, 48, 915, 52, 960, 581, 200, 1125, 1126, 1127, 19, 1128, 1129, 243, 244, 245, 66, 1142, 1143, 1144, 1145, 1146, 1147, 1148, 1149, 1150, 1151, 1152, 1153, 1154, 1155, 1223, 1224, 1225, 1226, 1227, 1228, 1229, 1230, 1231, 1232, 1233, 1234, 1235, 1236, 1237, 1238, 1239, 1240, 1241, 1242, 1243, 1244, 1245, 1246, 1247, 1248, 1249, 1250, 1251, 1252, 1253, 1254, 1255, 1256, 1257, 1258, 1259, 1260, 1261, 1262, 1263, 1264, 1265, 1266, 1267, 1268, 1269, 1270, 1271, 1272, 1273, 1274, 1275, 1276, 1277, 1278, 1279, 1220, 1221, 1222] (by decide +kernel) (by decide +kernel)
set_option maxRecDepth 20000 in
theorem gL_law_X10_count : GoodIn wsL_law (wsV RL 174 RX10 yX10_count wsX10_count) := goodIn_app (goodIn_of _ (by decide +kernel)) ggL_law_X10_count
set_option maxRecDepth 20000 in
theorem ggL_law_X11_count : GoodIn wsL_law wsX11_count := goodIn_r _ [1133, 222, 153, 320, 459, 485, 538, 703, 764, 925, 970, 592, 224, 1156, 1157, 1158, 1159, 1160, 1161, 1162, 1163, 1164, 1165, 1166, 1167, 1168, 1169, 1170, 1171, 1172, 1173, 1174, 1175, 1176, 1177, 1178, 1179, 1180, 1181, 1182, 1183, 1184, 1185, 1186, 1187, 1188, 1189, 1190, 1191, 1192, 1193, 1194, 1195, 1196, 1197, 1198, 1199, 1200, 1201, 1202, 1203, 1204, 1205, 1206, 1207, 1208, 1209, 1210, 1211, 1212, 1213, 1214, 1215, 1216, 1217, 1218, 1219] (by decide +kernel) (by decide +kernel)
set_option maxRecDepth 20000 in
theorem gL_law_X11_count : GoodIn wsL_law (wsV RL 177 RX11 yX11_count wsX11_count) := goodIn_app (goodIn_of _ (by decide +kernel)) ggL_law_X11_count
set_option maxRecDepth 20000 in
theorem ggL_law_X10_status : GoodIn wsL_law wsX10_status := goodIn_r _ [1137, 208, 1142, 1143, 1144, 1145, 1146, 1147, 1148, 1149, 1150, 1151, 1152, 1153, 1154, 1155] (by decide +kernel) (by decide +kernel)
set_option maxRecDepth 20000 in
theorem gL_law_X10_status : GoodIn wsL_law (wsV RL 178 RX10 yX10_status wsX10_status) := goodIn_app (goodIn_of _ (by decide +kernel)) ggL_law_X10_status
set_option maxRecDepth 20000 in
theorem ggL_law_X11_status : GoodIn wsL_law wsX11_status := goodIn_r _ [1141, 222, 225, 1156, 1157, 1158, 1159, 1160, 1161, 1162, 1163, 1164, 1165, 1166, 1167, 1168, 1169, 1170, 1171, 1172, 1173, 1174, 1175, 1176, 1177, 1178, 1179, 1180, 1181, 1182, 1183, 1184, 1185, 1186, 1187, 1188, 1189, 1190, 1191, 1192, 1193, 1194, 1195, 1196, 1197, 1198, 1199, 1200, 1201, 1202, 1203, 1204, 1205, 1206, 1207, 1208, 1209, 1210, 1211, 1212, 1213, 1214, 1215, 1216, 1217, 1218, 1219] (by decide +kernel) (by decide +kernel)
set_option maxRecDepth 20000 in
theorem gL_law_X11_status : GoodIn wsL_law (wsV RL 181 RX11 yX11_status wsX11_status) := goodIn_app (goodIn_of _ (by decide +kernel)) ggL_law_X11_status
theorem dL_law_1448 : decode cL_law 1448 = .ok (.aload_n 1, 1) := by decide +kernel
theorem dL_law_1449 : decode cL_law 1449 = .ok (.aload_n 0, 1) := by decide +kernel
theorem dL_law_1450 : decode cL_law 1450 = .ok (.iload_n 3, 1) := by decide +kernel
theorem dL_law_1451 : decode cL_law 1451 = .ok (.iconst 1, 1) := by decide +kernel
theorem dL_law_1452 : decode cL_law 1452 = .ok (.iadd, 1) := by decide +kernel
theorem dL_law_1453 : decode cL_law 1453 = .ok (.iaload, 1) := by decide +kernel
theorem dL_law_1454 : decode cL_law 1454 = .ok (.aload_n 0, 1) := by decide +kernel
theorem dL_law_1455 : decode cL_law 1455 = .ok (.iload_n 3, 1) := by decide +kernel
theorem dL_law_1456 : decode cL_law 1456 = .ok (.iconst 2, 1) := by decide +kernel
theorem dL_law_1457 : decode cL_law 1457 = .ok (.iadd, 1) := by decide +kernel
theorem dL_law_1458 : decode cL_law 1458 = .ok (.iaload, 1) := by decide +kernel
theorem dL_law_1459 : decode cL_law 1459 = .ok (.invokevirtual 150, 3) := by decide +kernel
theorem dL_law_1462 : decode cL_law 1462 = .ok (.aload_n 2, 1) := by decide +kernel
theorem dL_law_1463 : decode cL_law 1463 = .ok (.aload_n 0, 1) := by decide +kernel
theorem dL_law_1464 : decode cL_law 1464 = .ok (.iload_n 3, 1) := by decide +kernel
theorem dL_law_1465 : decode cL_law 1465 = .ok (.iconst 1, 1) := by decide +kernel
theorem dL_law_1466 : decode cL_law 1466 = .ok (.iadd, 1) := by decide +kernel
theorem dL_law_1467 : decode cL_law 1467 = .ok (.iaload, 1) := by decide +kernel
theorem dL_law_1468 : decode cL_law 1468 = .ok (.aload_n 0, 1) := by decide +kernel
theorem dL_law_1469 : decode cL_law 1469 = .ok (.iload_n 3, 1) := by decide +kernel
theorem dL_law_1470 : decode cL_law 1470 = .ok (.iconst 2, 1) := by decide +kernel
theorem dL_law_1471 : decode cL_law 1471 = .ok (.iadd, 1) := by decide +kernel
theorem dL_law_1472 : decode cL_law 1472 = .ok (.iaload, 1) := by decide +kernel
theorem dL_law_1473 : decode cL_law 1473 = .ok (.invokevirtual 153, 3) := by decide +kernel
theorem dL_law_1476 : decode cL_law 1476 = .ok (.if_icmp .eq 176, 3) := by decide +kernel
theorem dL_law_1481 : decode cL_law 1481 = .ok (.aload_n 1, 1) := by decide +kernel
theorem dL_law_1482 : decode cL_law 1482 = .ok (.aload_n 0, 1) := by decide +kernel
theorem dL_law_1483 : decode cL_law 1483 = .ok (.iload_n 3, 1) := by decide +kernel
theorem dL_law_1484 : decode cL_law 1484 = .ok (.iconst 1, 1) := by decide +kernel
theorem dL_law_1485 : decode cL_law 1485 = .ok (.iadd, 1) := by decide +kernel
theorem dL_law_1486 : decode cL_law 1486 = .ok (.iaload, 1) := by decide +kernel
theorem dL_law_1487 : decode cL_law 1487 = .ok (.invokevirtual 154, 3) := by decide +kernel
theorem dL_law_1490 : decode cL_law 1490 = .ok (.aload_n 2, 1) := by decide +kernel
theorem dL_law_1491 : decode cL_law 1491 = .ok (.aload_n 0, 1) := by decide +kernel
theorem dL_law_1492 : decode cL_law 1492 = .ok (.iload_n 3, 1) := by decide +kernel
theorem dL_law_1493 : decode cL_law 1493 = .ok (.iconst 1, 1) := by decide +kernel
theorem dL_law_1494 : decode cL_law 1494 = .ok (.iadd, 1) := by decide +kernel
theorem dL_law_1495 : decode cL_law 1495 = .ok (.iaload, 1) := by decide +kernel
theorem dL_law_1496 : decode cL_law 1496 = .ok (.invokevirtual 157, 3) := by decide +kernel
theorem dL_law_1499 : decode cL_law 1499 = .ok (.if_icmp .eq 153, 3) := by decide +kernel
theorem dL_law_1504 : decode cL_law 1504 = .ok (.aload_n 1, 1) := by decide +kernel
theorem dL_law_1505 : decode cL_law 1505 = .ok (.aload_n 0, 1) := by decide +kernel
theorem dL_law_1506 : decode cL_law 1506 = .ok (.iload_n 3, 1) := by decide +kernel
theorem dL_law_1507 : decode cL_law 1507 = .ok (.iconst 1, 1) := by decide +kernel
theorem dL_law_1508 : decode cL_law 1508 = .ok (.iadd, 1) := by decide +kernel
theorem dL_law_1509 : decode cL_law 1509 = .ok (.iaload, 1) := by decide +kernel
theorem dL_law_1510 : decode cL_law 1510 = .ok (.invokevirtual 158, 3) := by decide +kernel
theorem dL_law_1513 : decode cL_law 1513 = .ok (.aload_n 2, 1) := by decide +kernel
theorem dL_law_1514 : decode cL_law 1514 = .ok (.aload_n 0, 1) := by decide +kernel
theorem dL_law_1515 : decode cL_law 1515 = .ok (.iload_n 3, 1) := by decide +kernel
theorem dL_law_1516 : decode cL_law 1516 = .ok (.iconst 1, 1) := by decide +kernel
theorem dL_law_1517 : decode cL_law 1517 = .ok (.iadd, 1) := by decide +kernel
theorem dL_law_1518 : decode cL_law 1518 = .ok (.iaload, 1) := by decide +kernel
theorem dL_law_1519 : decode cL_law 1519 = .ok (.invokevirtual 161, 3) := by decide +kernel
theorem dL_law_1522 : decode cL_law 1522 = .ok (.if_icmp .eq 130, 3) := by decide +kernel
theorem dL_law_1527 : decode cL_law 1527 = .ok (.aload_n 1, 1) := by decide +kernel
theorem dL_law_1528 : decode cL_law 1528 = .ok (.aload_n 0, 1) := by decide +kernel
theorem dL_law_1529 : decode cL_law 1529 = .ok (.iload_n 3, 1) := by decide +kernel
theorem dL_law_1530 : decode cL_law 1530 = .ok (.iconst 1, 1) := by decide +kernel
theorem dL_law_1531 : decode cL_law 1531 = .ok (.iadd, 1) := by decide +kernel
theorem dL_law_1532 : decode cL_law 1532 = .ok (.iaload, 1) := by decide +kernel
theorem dL_law_1533 : decode cL_law 1533 = .ok (.aload_n 0, 1) := by decide +kernel
theorem dL_law_1534 : decode cL_law 1534 = .ok (.iload_n 3, 1) := by decide +kernel
theorem dL_law_1535 : decode cL_law 1535 = .ok (.iconst 2, 1) := by decide +kernel
theorem dL_law_1536 : decode cL_law 1536 = .ok (.iadd, 1) := by decide +kernel
theorem dL_law_1537 : decode cL_law 1537 = .ok (.iaload, 1) := by decide +kernel
theorem dL_law_1538 : decode cL_law 1538 = .ok (.invokevirtual 162, 3) := by decide +kernel
theorem dL_law_1541 : decode cL_law 1541 = .ok (.aload_n 2, 1) := by decide +kernel
theorem dL_law_1542 : decode cL_law 1542 = .ok (.aload_n 0, 1) := by decide +kernel
theorem dL_law_1543 : decode cL_law 1543 = .ok (.iload_n 3, 1) := by decide +kernel
theorem dL_law_1544 : decode cL_law 1544 = .ok (.iconst 1, 1) := by decide +kernel
theorem dL_law_1545 : decode cL_law 1545 = .ok (.iadd, 1) := by decide +kernel
theorem dL_law_1546 : decode cL_law 1546 = .ok (.iaload, 1) := by decide +kernel
theorem dL_law_1547 : decode cL_law 1547 = .ok (.aload_n 0, 1) := by decide +kernel
theorem dL_law_1548 : decode cL_law 1548 = .ok (.iload_n 3, 1) := by decide +kernel
theorem dL_law_1549 : decode cL_law 1549 = .ok (.iconst 2, 1) := by decide +kernel
theorem dL_law_1550 : decode cL_law 1550 = .ok (.iadd, 1) := by decide +kernel
theorem dL_law_1551 : decode cL_law 1551 = .ok (.iaload, 1) := by decide +kernel
theorem dL_law_1552 : decode cL_law 1552 = .ok (.invokevirtual 165, 3) := by decide +kernel
theorem dL_law_1555 : decode cL_law 1555 = .ok (.if_icmp .eq 97, 3) := by decide +kernel
theorem dL_law_1560 : decode cL_law 1560 = .ok (.aload_n 1, 1) := by decide +kernel
theorem dL_law_1561 : decode cL_law 1561 = .ok (.aload_n 0, 1) := by decide +kernel
theorem dL_law_1562 : decode cL_law 1562 = .ok (.iload_n 3, 1) := by decide +kernel
theorem dL_law_1563 : decode cL_law 1563 = .ok (.iconst 1, 1) := by decide +kernel
theorem dL_law_1564 : decode cL_law 1564 = .ok (.iadd, 1) := by decide +kernel
theorem dL_law_1565 : decode cL_law 1565 = .ok (.iaload, 1) := by decide +kernel
theorem dL_law_1566 : decode cL_law 1566 = .ok (.aload_n 0, 1) := by decide +kernel
theorem dL_law_1567 : decode cL_law 1567 = .ok (.iload_n 3, 1) := by decide +kernel
theorem dL_law_1568 : decode cL_law 1568 = .ok (.iconst 2, 1) := by decide +kernel
theorem dL_law_1569 : decode cL_law 1569 = .ok (.iadd, 1) := by decide +kernel
theorem dL_law_1570 : decode cL_law 1570 = .ok (.iaload, 1) := by decide +kernel
theorem dL_law_1571 : decode cL_law 1571 = .ok (.invokevirtual 166, 3) := by decide +kernel
theorem dL_law_1574 : decode cL_law 1574 = .ok (.aload_n 2, 1) := by decide +kernel
theorem dL_law_1575 : decode cL_law 1575 = .ok (.aload_n 0, 1) := by decide +kernel
theorem dL_law_1576 : decode cL_law 1576 = .ok (.iload_n 3, 1) := by decide +kernel
theorem dL_law_1577 : decode cL_law 1577 = .ok (.iconst 1, 1) := by decide +kernel
theorem dL_law_1578 : decode cL_law 1578 = .ok (.iadd, 1) := by decide +kernel
theorem dL_law_1579 : decode cL_law 1579 = .ok (.iaload, 1) := by decide +kernel
theorem dL_law_1580 : decode cL_law 1580 = .ok (.aload_n 0, 1) := by decide +kernel
theorem dL_law_1581 : decode cL_law 1581 = .ok (.iload_n 3, 1) := by decide +kernel
theorem dL_law_1582 : decode cL_law 1582 = .ok (.iconst 2, 1) := by decide +kernel
theorem dL_law_1583 : decode cL_law 1583 = .ok (.iadd, 1) := by decide +kernel
theorem dL_law_1584 : decode cL_law 1584 = .ok (.iaload, 1) := by decide +kernel
theorem dL_law_1585 : decode cL_law 1585 = .ok (.invokevirtual 169, 3) := by decide +kernel
theorem dL_law_1588 : decode cL_law 1588 = .ok (.if_icmp .eq 64, 3) := by decide +kernel
theorem dL_law_1593 : decode cL_law 1593 = .ok (.aload_n 1, 1) := by decide +kernel
theorem dL_law_1594 : decode cL_law 1594 = .ok (.aload_n 0, 1) := by decide +kernel
theorem dL_law_1595 : decode cL_law 1595 = .ok (.iload_n 3, 1) := by decide +kernel
theorem dL_law_1596 : decode cL_law 1596 = .ok (.iconst 1, 1) := by decide +kernel
theorem dL_law_1597 : decode cL_law 1597 = .ok (.iadd, 1) := by decide +kernel
theorem dL_law_1598 : decode cL_law 1598 = .ok (.iaload, 1) := by decide +kernel
theorem dL_law_1599 : decode cL_law 1599 = .ok (.invokevirtual 170, 3) := by decide +kernel
theorem dL_law_1602 : decode cL_law 1602 = .ok (.aload_n 2, 1) := by decide +kernel
theorem dL_law_1603 : decode cL_law 1603 = .ok (.aload_n 0, 1) := by decide +kernel
theorem dL_law_1604 : decode cL_law 1604 = .ok (.iload_n 3, 1) := by decide +kernel
theorem dL_law_1605 : decode cL_law 1605 = .ok (.iconst 1, 1) := by decide +kernel
theorem dL_law_1606 : decode cL_law 1606 = .ok (.iadd, 1) := by decide +kernel
theorem dL_law_1607 : decode cL_law 1607 = .ok (.iaload, 1) := by decide +kernel
theorem dL_law_1608 : decode cL_law 1608 = .ok (.invokevirtual 173, 3) := by decide +kernel
theorem dL_law_1611 : decode cL_law 1611 = .ok (.if_icmp .eq 41, 3) := by decide +kernel
theorem dL_law_1616 : decode cL_law 1616 = .ok (.aload_n 1, 1) := by decide +kernel
theorem dL_law_1617 : decode cL_law 1617 = .ok (.aload_n 0, 1) := by decide +kernel
theorem dL_law_1618 : decode cL_law 1618 = .ok (.iload_n 3, 1) := by decide +kernel
theorem dL_law_1619 : decode cL_law 1619 = .ok (.iconst 1, 1) := by decide +kernel
theorem dL_law_1620 : decode cL_law 1620 = .ok (.iadd, 1) := by decide +kernel
theorem dL_law_1621 : decode cL_law 1621 = .ok (.iaload, 1) := by decide +kernel
theorem dL_law_1622 : decode cL_law 1622 = .ok (.invokevirtual 174, 3) := by decide +kernel
theorem dL_law_1625 : decode cL_law 1625 = .ok (.aload_n 2, 1) := by decide +kernel
theorem dL_law_1626 : decode cL_law 1626 = .ok (.aload_n 0, 1) := by decide +kernel
theorem dL_law_1627 : decode cL_law 1627 = .ok (.iload_n 3, 1) := by decide +kernel
theorem dL_law_1628 : decode cL_law 1628 = .ok (.iconst 1, 1) := by decide +kernel
theorem dL_law_1629 : decode cL_law 1629 = .ok (.iadd, 1) := by decide +kernel
theorem dL_law_1630 : decode cL_law 1630 = .ok (.iaload, 1) := by decide +kernel
theorem dL_law_1631 : decode cL_law 1631 = .ok (.invokevirtual 177, 3) := by decide +kernel
theorem dL_law_1634 : decode cL_law 1634 = .ok (.if_icmp .eq 18, 3) := by decide +kernel
theorem dL_law_1639 : decode cL_law 1639 = .ok (.aload_n 1, 1) := by decide +kernel
theorem dL_law_1640 : decode cL_law 1640 = .ok (.invokevirtual 178, 3) := by decide +kernel
theorem dL_law_1643 : decode cL_law 1643 = .ok (.aload_n 2, 1) := by decide +kernel
theorem dL_law_1644 : decode cL_law 1644 = .ok (.invokevirtual 181, 3) := by decide +kernel
theorem dL_law_1647 : decode cL_law 1647 = .ok (.if_icmp .eq 5, 3) := by decide +kernel
set_option maxHeartbeats 4000000 in
set_option maxRecDepth 100000 in
theorem law_case_30 {p : Program} {l : Launch} {e : Env} {s : State} {m : MethodId} {below : List Frame} {meth : Method} {c : Code} {D : va_G} {cI cY cJ cQ : ClassId} {b : Nat} {xs : Nat → Int32} {ad rw md : Nat → Nat} {sd : Int32} {H : Heap} {locs : List Loc} {ls : Array Slot} (C0 : lawC p s m meth c b xs D cI cY cJ cQ) (hP : va_P D vwCl [((ad 0), .inr (10, [.ref (ad 1), .ref (ad 2), .ref (ad 3), .ref (ad 4), .ref (ad 5), .ref (ad 6), .ref (ad 7), .ref (ad 8), .ref (ad 9), .ref (ad 10), .ref (ad 11), .int 0, .int 0, .int 0])), ((ad 3), .inr (1, [.ref (ad 31), .ref (ad 32), .ref (ad 33), .int 0, .ref (ad 34), .ref (ad 35)])), ((md 64), .inr (11, [.int 0, .long (sd.toInt64), .int 0, .ref (md 3), .ref (md 4), .ref (md 5), .int 0, .ref (md 7), .ref (md 8), .ref (md 9), .ref (md 10), .ref (md 11), .ref (md 12), .ref (md 13), .ref (md 14), .int 0, .ref (md 16), .ref (md 17), .int 0, .ref (md 19), .ref (md 20), .ref (md 21), .ref (md 22), .ref (md 23), .int 0, .int 0, .ref (md 26), .ref (md 27), .ref (md 28), .ref (md 29), .int 0, .ref (md 31), .int 0, .ref (md 33), .ref (md 34), .int 0, .int 0, .int 0, .int 0, .int 0, .int 0, .int 0, .int 0, .int 0, .int 0, .ref (md 45), .ref (md 46), .ref (md 47), .ref (md 48), .ref (md 49), .ref (md 50), .ref (md 51), .int 0, .ref (md 53), .ref (md 54), .ref (md 55), .ref (md 56), .int 0, .ref (md 58), .ref (md 59), .ref (md 60), .int 0, .ref (md 62), .int 0]))] H) (hD : va_D (fun q : Nat => s.heap.size ≤ q) [((ad 0), .inr (10, [.ref (ad 1), .ref (ad 2), .ref (ad 3), .ref (ad 4), .ref (ad 5), .ref (ad 6), .ref (ad 7), .ref (ad 8), .ref (ad 9), .ref (ad 10), .ref (ad 11), .int 0, .int 0, .int 0])), ((ad 3), .inr (1, [.ref (ad 31), .ref (ad 32), .ref (ad 33), .int 0, .ref (ad 34), .ref (ad 35)])), ((md 64), .inr (11, [.int 0, .long (sd.toInt64), .int 0, .ref (md 3), .ref (md 4), .ref (md 5), .int 0, .ref (md 7), .ref (md 8), .ref (md 9), .ref (md 10), .ref (md 11), .ref (md 12), .ref (md 13), .ref (md 14), .int 0, .ref (md 16), .ref (md 17), .int 0, .ref (md 19), .ref (md 20), .ref (md 21), .ref (md 22), .ref (md 23), .int 0, .int 0, .ref (md 26), .ref (md 27), .ref (md 28), .ref (md 29), .int 0, .ref (md 31), .int 0, .ref (md 33), .ref (md 34), .int 0, .int 0, .int 0, .int 0, .int 0, .int 0, .int 0, .int 0, .int 0, .int 0, .ref (md 45), .ref (md 46), .ref (md 47), .ref (md 48), .ref (md 49), .ref (md 50), .ref (md 51), .int 0, .ref (md 53), .ref (md 54), .ref (md 55), .ref (md 56), .int 0, .ref (md 58), .ref (md 59), .ref (md 60), .int 0, .ref (md 62), .int 0]))]) (hS : va_S (fun q : Nat => s.heap.size ≤ q) s.heap H locs) (hl : lv_has ls 4 [(0, .ref b), (1, .ref (ad 0)), (2, .ref (md 64)), (3, .int 1)]) : W p l e room_1 s m #[Value.ref b] below meth c H locs 107 4890 (lw_Z below #[Value.ref b] s) (F0 m 1448 ls []) := by
  have C0k := C0
  obtain ⟨C1, hK, hN⟩ := C0
  obtain ⟨hx, hb, hr, hml, hown, hts0, hX, hbl, hlocks, hgv⟩ := C1
  have hA : ∀ q : Nat, s.heap.size ≤ q → (fun q : Nat => s.heap.size ≤ q) q := fun _ h => h
  have hbA : ¬ (fun q : Nat => s.heap.size ≤ q) b := Nat.not_le.mpr hbl
  have hts : ∀ w ∈ wsL_law, w.before #[Value.ref b] s = true := fun w h => hts0 w (wsL_law_in w h)
  replace hown : s.vm.findClass RL = some m.cls := hown
  replace hb : c.code = cL_law := hb
  have hLI : (Int32.ofNat 7).toInt = 7 := by decide
  refine lv_aload_n hx hb dL_law_1448 rfl (lv_at hl 1 rfl) ?_
  refine lv_aload_n hx hb dL_law_1449 rfl (lv_at hl 0 rfl) ?_
  refine lv_iload_n hx hb dL_law_1450 rfl (lv_at hl 3 rfl) ?_
  refine lv_iconst (v := 1) hx hb dL_law_1451 (by decide) ?_
  refine lv_iadd hx hb dL_law_1452 ?_
  refine lv_topi (fun v1 ev1 => ?_)
  replace ev1 : v1 = 2 := ev1.trans (by decide)
  subst ev1
  refine va_sld hx hb hX hbl hbA hS (i_in (by decide) (by decide)) dL_law_1453 ?_
  refine lv_aload_n hx hb dL_law_1454 rfl (lv_at hl 0 rfl) ?_
  refine lv_iload_n hx hb dL_law_1455 rfl (lv_at hl 3 rfl) ?_
  refine lv_iconst (v := 2) hx hb dL_law_1456 (by decide) ?_
  refine lv_iadd hx hb dL_law_1457 ?_
  refine lv_topi (fun v2 ev2 => ?_)
  replace ev2 : v2 = 3 := ev2.trans (by decide)
  subst ev2
  refine va_sld hx hb hX hbl hbA hS (i_in (by decide) (by decide)) dL_law_1458 ?_
  refine st_i (wr := [((md 64), .inr (11, [.int 0, .long (sd.toInt64), .int 0, .ref (md 3), .ref (md 4), .ref (md 5), .int 0, .ref (md 7), .ref (md 8), .ref (md 9), .ref (md 10), .ref (md 11), .ref (md 12), .ref (md 13), .ref (md 14), .int 0, .ref (md 16), .ref (md 17), .int 0, .ref (md 19), .ref (md 20), .ref (md 21), .ref (md 22), .ref (md 23), .int 0, .int 0, .ref (md 26), .ref (md 27), .ref (md 28), .ref (md 29), .int 0, .ref (md 31), .int 0, .ref (md 33), .ref (md 34), .int 0, .int 0, .int 0, .int 0, .int 0, .int 0, .int 0, .int 0, .int 0, .int 0, .ref (md 45), .ref (md 46), .ref (md 47), .ref (md 48), .ref (md 49), .ref (md 50), .ref (md 51), .int 0, .ref (md 53), .ref (md 54), .ref (md 55), .ref (md 56), .int 0, .ref (md 58), .ref (md 59), .ref (md 60), .int 0, .ref (md 62), .int 0]))]) (va_runV (C := RX10) (As := [.int (xs ((2 : Int32).toNatClampNeg)), .int (xs ((3 : Int32).toNatClampNeg))]) (rest := []) ⟨hx, hb, hml, hown, hts⟩ (ct_X10_barred l D cI cY cJ cQ _ ad (xs ((2 : Int32).toNatClampNeg)) (xs ((3 : Int32).toNatClampNeg))) (cwV 2 hts gL_law_X10_barred rfl rfl rfl (by decide +kernel) ⟨Nat.le_of_ble_eq_true rfl, Nat.le_of_ble_eq_true rfl⟩) (cPreV (hP.sub [0, 1] rfl) hK (hD.sub [0, 1] (by decide) rfl) hN (ci := 10) (q0 := 0) rfl rfl) rfl rfl hl.1 rfl (lv_room (Nat.le_of_ble_eq_true rfl)) dL_law_1459 ⟨Nat.le_of_ble_eq_true rfl, Nat.le_of_ble_eq_true rfl⟩) hP hD hS hA [0, 1] [2] rfl rfl (by decide) (by decide) (fun r5 u3 H locs hw4 hP hD hS => ?_)
  replace hP : va_P D vwCl [((md 64), .inr (11, [.int 0, .long (sd.toInt64), .int 0, .ref (md 3), .ref (md 4), .ref (md 5), .int 0, .ref (md 7), .ref (md 8), .ref (md 9), .ref (md 10), .ref (md 11), .ref (md 12), .ref (md 13), .ref (md 14), .int 0, .ref (md 16), .ref (md 17), .int 0, .ref (md 19), .ref (md 20), .ref (md 21), .ref (md 22), .ref (md 23), .int 0, .int 0, .ref (md 26), .ref (md 27), .ref (md 28), .ref (md 29), .int 0, .ref (md 31), .int 0, .ref (md 33), .ref (md 34), .int 0, .int 0, .int 0, .int 0, .int 0, .int 0, .int 0, .int 0, .int 0, .int 0, .ref (md 45), .ref (md 46), .ref (md 47), .ref (md 48), .ref (md 49), .ref (md 50), .ref (md 51), .int 0, .ref (md 53), .ref (md 54), .ref (md 55), .ref (md 56), .int 0, .ref (md 58), .ref (md 59), .ref (md 60), .int 0, .ref (md 62), .int 0]))] H := hP
  replace hD : va_D (fun q : Nat => s.heap.size ≤ q) [((md 64), .inr (11, [.int 0, .long (sd.toInt64), .int 0, .ref (md 3), .ref (md 4), .ref (md 5), .int 0, .ref (md 7), .ref (md 8), .ref (md 9), .ref (md 10), .ref (md 11), .ref (md 12), .ref (md 13), .ref (md 14), .int 0, .ref (md 16), .ref (md 17), .int 0, .ref (md 19), .ref (md 20), .ref (md 21), .ref (md 22), .ref (md 23), .int 0, .int 0, .ref (md 26), .ref (md 27), .ref (md 28), .ref (md 29), .int 0, .ref (md 31), .int 0, .ref (md 33), .ref (md 34), .int 0, .int 0, .int 0, .int 0, .int 0, .int 0, .int 0, .int 0, .int 0, .int 0, .ref (md 45), .ref (md 46), .ref (md 47), .ref (md 48), .ref (md 49), .ref (md 50), .ref (md 51), .int 0, .ref (md 53), .ref (md 54), .ref (md 55), .ref (md 56), .int 0, .ref (md 58), .ref (md 59), .ref (md 60), .int 0, .ref (md 62), .int 0]))] := hD
  refine lv_aload_n hx hb dL_law_1462 rfl (lv_at hl 2 rfl) ?_
  refine lv_aload_n hx hb dL_law_1463 rfl (lv_at hl 0 rfl) ?_
  refine lv_iload_n hx hb dL_law_1464 rfl (lv_at hl 3 rfl) ?_
  refine lv_iconst (v := 1) hx hb dL_law_1465 (by decide) ?_
  refine lv_iadd hx hb dL_law_1466 ?_
  refine lv_topi (fun v6 ev6 => ?_)
  replace ev6 : v6 = 2 := ev6.trans (by decide)
  subst ev6
  refine va_sld hx hb hX hbl hbA hS (i_in (by decide) (by decide)) dL_law_1467 ?_
  refine lv_aload_n hx hb dL_law_1468 rfl (lv_at hl 0 rfl) ?_
  refine lv_iload_n hx hb dL_law_1469 rfl (lv_at hl 3 rfl) ?_
  refine lv_iconst (v := 2) hx hb dL_law_1470 (by decide) ?_
  refine lv_iadd hx hb dL_law_1471 ?_
  refine lv_topi (fun v7 ev7 => ?_)
  replace ev7 : v7 = 3 := ev7.trans (by decide)
  subst ev7
  refine va_sld hx hb hX hbl hbA hS (i_in (by decide) (by decide)) dL_law_1472 ?_
  refine st_i (wr := []) (va_runV (C := RX11) (As := [.int (xs ((2 : Int32).toNatClampNeg)), .int (xs ((3 : Int32).toNatClampNeg))]) (rest := [.int r5]) ⟨hx, hb, hml, hown, hts⟩ (ct_X11_barred l D cI cY cJ cQ _ md sd (xs ((2 : Int32).toNatClampNeg)) (xs ((3 : Int32).toNatClampNeg))) (cwV 2 hts gL_law_X11_barred rfl rfl rfl (by decide +kernel) ⟨Nat.le_of_ble_eq_true rfl, Nat.le_of_ble_eq_true rfl⟩) (cPreV (hP.sub [0] rfl) hK (hD.sub [0] (by decide) rfl) hN (ci := 11) (q0 := 0) rfl rfl) rfl rfl hl.1 rfl (lv_room (Nat.le_of_ble_eq_true rfl)) dL_law_1473 ⟨Nat.le_of_ble_eq_true rfl, Nat.le_of_ble_eq_true rfl⟩) hP hD hS hA [0] [] rfl rfl (by decide) (by decide) (fun r10 u8 H locs hw9 hP hD hS => ?_)
  replace hP : va_P D vwCl [] H := hP
  replace hD : va_D (fun q : Nat => s.heap.size ≤ q) [] := hD
  refine lv_icmp_eq (tgt := 1652) hx hb dL_law_1476 (by decide) (fun _ => ?_) (fun c11 => by exfalso; exact c11 (hw4.trans hw9.symm))
  exact law_tail C0k hS (lv_sub hl [0, 3] rfl)

set_option maxHeartbeats 4000000 in
set_option maxRecDepth 100000 in
theorem law_case_31 {p : Program} {l : Launch} {e : Env} {s : State} {m : MethodId} {below : List Frame} {meth : Method} {c : Code} {D : va_G} {cI cY cJ cQ : ClassId} {b : Nat} {xs : Nat → Int32} {ad rw md : Nat → Nat} {sd : Int32} {H : Heap} {locs : List Loc} {ls : Array Slot} (C0 : lawC p s m meth c b xs D cI cY cJ cQ) (hP : va_P D vwCl [((ad 0), .inr (10, [.ref (ad 1), .ref (ad 2), .ref (ad 3), .ref (ad 4), .ref (ad 5), .ref (ad 6), .ref (ad 7), .ref (ad 8), .ref (ad 9), .ref (ad 10), .ref (ad 11), .int 0, .int 0, .int 0])), ((md 64), .inr (11, [.int 0, .long (sd.toInt64), .int 0, .ref (md 3), .ref (md 4), .ref (md 5), .int 0, .ref (md 7), .ref (md 8), .ref (md 9), .ref (md 10), .ref (md 11), .ref (md 12), .ref (md 13), .ref (md 14), .int 0, .ref (md 16), .ref (md 17), .int 0, .ref (md 19), .ref (md 20), .ref (md 21), .ref (md 22), .ref (md 23), .int 0, .int 0, .ref (md 26), .ref (md 27), .ref (md 28), .ref (md 29), .int 0, .ref (md 31), .int 0, .ref (md 33), .ref (md 34), .int 0, .int 0, .int 0, .int 0, .int 0, .int 0, .int 0, .int 0, .int 0, .int 0, .ref (md 45), .ref (md 46), .ref (md 47), .ref (md 48), .ref (md 49), .ref (md 50), .ref (md 51), .int 0, .ref (md 53), .ref (md 54), .ref (md 55), .ref (md 56), .int 0, .ref (md 58), .ref (md 59), .ref (md 60), .int 0, .ref (md 62), .int 0]))] H) (hD : va_D (fun q : Nat => s.heap.size ≤ q) [((ad 0), .inr (10, [.ref (ad 1), .ref (ad 2), .ref (ad 3), .ref (ad 4), .ref (ad 5), .ref (ad 6), .ref (ad 7), .ref (ad 8), .ref (ad 9), .ref (ad 10), .ref (ad 11), .int 0, .int 0, .int 0])), ((md 64), .inr (11, [.int 0, .long (sd.toInt64), .int 0, .ref (md 3), .ref (md 4), .ref (md 5), .int 0, .ref (md 7), .ref (md 8), .ref (md 9), .ref (md 10), .ref (md 11), .ref (md 12), .ref (md 13), .ref (md 14), .int 0, .ref (md 16), .ref (md 17), .int 0, .ref (md 19), .ref (md 20), .ref (md 21), .ref (md 22), .ref (md 23), .int 0, .int 0, .ref (md 26), .ref (md 27), .ref (md 28), .ref (md 29), .int 0, .ref (md 31), .int 0, .ref (md 33), .ref (md 34), .int 0, .int 0, .int 0, .int 0, .int 0, .int 0, .int 0, .int 0, .int 0, .int 0, .ref (md 45), .ref (md 46), .ref (md 47), .ref (md 48), .ref (md 49), .ref (md 50), .ref (md 51), .int 0, .ref (md 53), .ref (md 54), .ref (md 55), .ref (md 56), .int 0, .ref (md 58), .ref (md 59), .ref (md 60), .int 0, .ref (md 62), .int 0]))]) (hS : va_S (fun q : Nat => s.heap.size ≤ q) s.heap H locs) (hl : lv_has ls 4 [(0, .ref b), (1, .ref (ad 0)), (2, .ref (md 64)), (3, .int 1)]) : W p l e room_1 s m #[Value.ref b] below meth c H locs 107 4890 (lw_Z below #[Value.ref b] s) (F0 m 1481 ls []) := by
  have C0k := C0
  obtain ⟨C1, hK, hN⟩ := C0
  obtain ⟨hx, hb, hr, hml, hown, hts0, hX, hbl, hlocks, hgv⟩ := C1
  have hA : ∀ q : Nat, s.heap.size ≤ q → (fun q : Nat => s.heap.size ≤ q) q := fun _ h => h
  have hbA : ¬ (fun q : Nat => s.heap.size ≤ q) b := Nat.not_le.mpr hbl
  have hts : ∀ w ∈ wsL_law, w.before #[Value.ref b] s = true := fun w h => hts0 w (wsL_law_in w h)
  replace hown : s.vm.findClass RL = some m.cls := hown
  replace hb : c.code = cL_law := hb
  have hLI : (Int32.ofNat 7).toInt = 7 := by decide
  refine lv_aload_n hx hb dL_law_1481 rfl (lv_at hl 1 rfl) ?_
  refine lv_aload_n hx hb dL_law_1482 rfl (lv_at hl 0 rfl) ?_
  refine lv_iload_n hx hb dL_law_1483 rfl (lv_at hl 3 rfl) ?_
  refine lv_iconst (v := 1) hx hb dL_law_1484 (by decide) ?_
  refine lv_iadd hx hb dL_law_1485 ?_
  refine lv_topi (fun v1 ev1 => ?_)
  replace ev1 : v1 = 2 := ev1.trans (by decide)
  subst ev1
  refine va_sld hx hb hX hbl hbA hS (i_in (by decide) (by decide)) dL_law_1486 ?_
  refine st_i (wr := [((md 64), .inr (11, [.int 0, .long (sd.toInt64), .int 0, .ref (md 3), .ref (md 4), .ref (md 5), .int 0, .ref (md 7), .ref (md 8), .ref (md 9), .ref (md 10), .ref (md 11), .ref (md 12), .ref (md 13), .ref (md 14), .int 0, .ref (md 16), .ref (md 17), .int 0, .ref (md 19), .ref (md 20), .ref (md 21), .ref (md 22), .ref (md 23), .int 0, .int 0, .ref (md 26), .ref (md 27), .ref (md 28), .ref (md 29), .int 0, .ref (md 31), .int 0, .ref (md 33), .ref (md 34), .int 0, .int 0, .int 0, .int 0, .int 0, .int 0, .int 0, .int 0, .int 0, .int 0, .ref (md 45), .ref (md 46), .ref (md 47), .ref (md 48), .ref (md 49), .ref (md 50), .ref (md 51), .int 0, .ref (md 53), .ref (md 54), .ref (md 55), .ref (md 56), .int 0, .ref (md 58), .ref (md 59), .ref (md 60), .int 0, .ref (md 62), .int 0]))]) (va_runV (C := RX10) (As := [.int (xs ((2 : Int32).toNatClampNeg))]) (rest := []) ⟨hx, hb, hml, hown, hts⟩ (ct_X10_day l D cI cY cJ cQ _ ad (xs ((2 : Int32).toNatClampNeg))) (cwV 1 hts gL_law_X10_day rfl rfl rfl (by decide +kernel) ⟨Nat.le_of_ble_eq_true rfl, Nat.le_of_ble_eq_true rfl⟩) (cPreV (hP.sub [0] rfl) hK (hD.sub [0] (by decide) rfl) hN (ci := 10) (q0 := 0) rfl rfl) rfl rfl hl.1 rfl (lv_room (Nat.le_of_ble_eq_true rfl)) dL_law_1487 ⟨Nat.le_of_ble_eq_true rfl, Nat.le_of_ble_eq_true rfl⟩) hP hD hS hA [0] [1] rfl rfl (by decide) (by decide) (fun r4 u2 H locs hw3 hP hD hS => ?_)
  replace hP : va_P D vwCl [((md 64), .inr (11, [.int 0, .long (sd.toInt64), .int 0, .ref (md 3), .ref (md 4), .ref (md 5), .int 0, .ref (md 7), .ref (md 8), .ref (md 9), .ref (md 10), .ref (md 11), .ref (md 12), .ref (md 13), .ref (md 14), .int 0, .ref (md 16), .ref (md 17), .int 0, .ref (md 19), .ref (md 20), .ref (md 21), .ref (md 22), .ref (md 23), .int 0, .int 0, .ref (md 26), .ref (md 27), .ref (md 28), .ref (md 29), .int 0, .ref (md 31), .int 0, .ref (md 33), .ref (md 34), .int 0, .int 0, .int 0, .int 0, .int 0, .int 0, .int 0, .int 0, .int 0, .int 0, .ref (md 45), .ref (md 46), .ref (md 47), .ref (md 48), .ref (md 49), .ref (md 50), .ref (md 51), .int 0, .ref (md 53), .ref (md 54), .ref (md 55), .ref (md 56), .int 0, .ref (md 58), .ref (md 59), .ref (md 60), .int 0, .ref (md 62), .int 0]))] H := hP
  replace hD : va_D (fun q : Nat => s.heap.size ≤ q) [((md 64), .inr (11, [.int 0, .long (sd.toInt64), .int 0, .ref (md 3), .ref (md 4), .ref (md 5), .int 0, .ref (md 7), .ref (md 8), .ref (md 9), .ref (md 10), .ref (md 11), .ref (md 12), .ref (md 13), .ref (md 14), .int 0, .ref (md 16), .ref (md 17), .int 0, .ref (md 19), .ref (md 20), .ref (md 21), .ref (md 22), .ref (md 23), .int 0, .int 0, .ref (md 26), .ref (md 27), .ref (md 28), .ref (md 29), .int 0, .ref (md 31), .int 0, .ref (md 33), .ref (md 34), .int 0, .int 0, .int 0, .int 0, .int 0, .int 0, .int 0, .int 0, .int 0, .int 0, .ref (md 45), .ref (md 46), .ref (md 47), .ref (md 48), .ref (md 49), .ref (md 50), .ref (md 51), .int 0, .ref (md 53), .ref (md 54), .ref (md 55), .ref (md 56), .int 0, .ref (md 58), .ref (md 59), .ref (md 60), .int 0, .ref (md 62), .int 0]))] := hD
  refine lv_aload_n hx hb dL_law_1490 rfl (lv_at hl 2 rfl) ?_
  refine lv_aload_n hx hb dL_law_1491 rfl (lv_at hl 0 rfl) ?_
  refine lv_iload_n hx hb dL_law_1492 rfl (lv_at hl 3 rfl) ?_
  refine lv_iconst (v := 1) hx hb dL_law_1493 (by decide) ?_
  refine lv_iadd hx hb dL_law_1494 ?_
  refine lv_topi (fun v5 ev5 => ?_)
  replace ev5 : v5 = 2 := ev5.trans (by decide)
  subst ev5
  refine va_sld hx hb hX hbl hbA hS (i_in (by decide) (by decide)) dL_law_1495 ?_
  refine st_i (wr := []) (va_runV (C := RX11) (As := [.int (xs ((2 : Int32).toNatClampNeg))]) (rest := [.int r4]) ⟨hx, hb, hml, hown, hts⟩ (ct_X11_day l D cI cY cJ cQ _ md sd (xs ((2 : Int32).toNatClampNeg))) (cwV 1 hts gL_law_X11_day rfl rfl rfl (by decide +kernel) ⟨Nat.le_of_ble_eq_true rfl, Nat.le_of_ble_eq_true rfl⟩) (cPreV (hP.sub [0] rfl) hK (hD.sub [0] (by decide) rfl) hN (ci := 11) (q0 := 0) rfl rfl) rfl rfl hl.1 rfl (lv_room (Nat.le_of_ble_eq_true rfl)) dL_law_1496 ⟨Nat.le_of_ble_eq_true rfl, Nat.le_of_ble_eq_true rfl⟩) hP hD hS hA [0] [] rfl rfl (by decide) (by decide) (fun r8 u6 H locs hw7 hP hD hS => ?_)
  replace hP : va_P D vwCl [] H := hP
  replace hD : va_D (fun q : Nat => s.heap.size ≤ q) [] := hD
  refine lv_icmp_eq (tgt := 1652) hx hb dL_law_1499 (by decide) (fun _ => ?_) (fun c9 => by exfalso; exact c9 (hw3.trans hw7.symm))
  exact law_tail C0k hS (lv_sub hl [0, 3] rfl)

set_option maxHeartbeats 4000000 in
set_option maxRecDepth 100000 in
theorem law_case_32 {p : Program} {l : Launch} {e : Env} {s : State} {m : MethodId} {below : List Frame} {meth : Method} {c : Code} {D : va_G} {cI cY cJ cQ : ClassId} {b : Nat} {xs : Nat → Int32} {ad rw md : Nat → Nat} {sd : Int32} {H : Heap} {locs : List Loc} {ls : Array Slot} (C0 : lawC p s m meth c b xs D cI cY cJ cQ) (hP : va_P D vwCl [((ad 0), .inr (10, [.ref (ad 1), .ref (ad 2), .ref (ad 3), .ref (ad 4), .ref (ad 5), .ref (ad 6), .ref (ad 7), .ref (ad 8), .ref (ad 9), .ref (ad 10), .ref (ad 11), .int 0, .int 0, .int 0])), ((ad 3), .inr (1, [.ref (ad 31), .ref (ad 32), .ref (ad 33), .int 0, .ref (ad 34), .ref (ad 35)])), ((md 64), .inr (11, [.int 0, .long (sd.toInt64), .int 0, .ref (md 3), .ref (md 4), .ref (md 5), .int 0, .ref (md 7), .ref (md 8), .ref (md 9), .ref (md 10), .ref (md 11), .ref (md 12), .ref (md 13), .ref (md 14), .int 0, .ref (md 16), .ref (md 17), .int 0, .ref (md 19), .ref (md 20), .ref (md 21), .ref (md 22), .ref (md 23), .int 0, .int 0, .ref (md 26), .ref (md 27), .ref (md 28), .ref (md 29), .int 0, .ref (md 31), .int 0, .ref (md 33), .ref (md 34), .int 0, .int 0, .int 0, .int 0, .int 0, .int 0, .int 0, .int 0, .int 0, .int 0, .ref (md 45), .ref (md 46), .ref (md 47), .ref (md 48), .ref (md 49), .ref (md 50), .ref (md 51), .int 0, .ref (md 53), .ref (md 54), .ref (md 55), .ref (md 56), .int 0, .ref (md 58), .ref (md 59), .ref (md 60), .int 0, .ref (md 62), .int 0]))] H) (hD : va_D (fun q : Nat => s.heap.size ≤ q) [((ad 0), .inr (10, [.ref (ad 1), .ref (ad 2), .ref (ad 3), .ref (ad 4), .ref (ad 5), .ref (ad 6), .ref (ad 7), .ref (ad 8), .ref (ad 9), .ref (ad 10), .ref (ad 11), .int 0, .int 0, .int 0])), ((ad 3), .inr (1, [.ref (ad 31), .ref (ad 32), .ref (ad 33), .int 0, .ref (ad 34), .ref (ad 35)])), ((md 64), .inr (11, [.int 0, .long (sd.toInt64), .int 0, .ref (md 3), .ref (md 4), .ref (md 5), .int 0, .ref (md 7), .ref (md 8), .ref (md 9), .ref (md 10), .ref (md 11), .ref (md 12), .ref (md 13), .ref (md 14), .int 0, .ref (md 16), .ref (md 17), .int 0, .ref (md 19), .ref (md 20), .ref (md 21), .ref (md 22), .ref (md 23), .int 0, .int 0, .ref (md 26), .ref (md 27), .ref (md 28), .ref (md 29), .int 0, .ref (md 31), .int 0, .ref (md 33), .ref (md 34), .int 0, .int 0, .int 0, .int 0, .int 0, .int 0, .int 0, .int 0, .int 0, .int 0, .ref (md 45), .ref (md 46), .ref (md 47), .ref (md 48), .ref (md 49), .ref (md 50), .ref (md 51), .int 0, .ref (md 53), .ref (md 54), .ref (md 55), .ref (md 56), .int 0, .ref (md 58), .ref (md 59), .ref (md 60), .int 0, .ref (md 62), .int 0]))]) (hS : va_S (fun q : Nat => s.heap.size ≤ q) s.heap H locs) (hl : lv_has ls 4 [(0, .ref b), (1, .ref (ad 0)), (2, .ref (md 64)), (3, .int 1)]) : W p l e room_1 s m #[Value.ref b] below meth c H locs 107 4890 (lw_Z below #[Value.ref b] s) (F0 m 1504 ls []) := by
  have C0k := C0
  obtain ⟨C1, hK, hN⟩ := C0
  obtain ⟨hx, hb, hr, hml, hown, hts0, hX, hbl, hlocks, hgv⟩ := C1
  have hA : ∀ q : Nat, s.heap.size ≤ q → (fun q : Nat => s.heap.size ≤ q) q := fun _ h => h
  have hbA : ¬ (fun q : Nat => s.heap.size ≤ q) b := Nat.not_le.mpr hbl
  have hts : ∀ w ∈ wsL_law, w.before #[Value.ref b] s = true := fun w h => hts0 w (wsL_law_in w h)
  replace hown : s.vm.findClass RL = some m.cls := hown
  replace hb : c.code = cL_law := hb
  have hLI : (Int32.ofNat 7).toInt = 7 := by decide
  refine lv_aload_n hx hb dL_law_1504 rfl (lv_at hl 1 rfl) ?_
  refine lv_aload_n hx hb dL_law_1505 rfl (lv_at hl 0 rfl) ?_
  refine lv_iload_n hx hb dL_law_1506 rfl (lv_at hl 3 rfl) ?_
  refine lv_iconst (v := 1) hx hb dL_law_1507 (by decide) ?_
  refine lv_iadd hx hb dL_law_1508 ?_
  refine lv_topi (fun v1 ev1 => ?_)
  replace ev1 : v1 = 2 := ev1.trans (by decide)
  subst ev1
  refine va_sld hx hb hX hbl hbA hS (i_in (by decide) (by decide)) dL_law_1509 ?_
  refine st_i (wr := [((md 64), .inr (11, [.int 0, .long (sd.toInt64), .int 0, .ref (md 3), .ref (md 4), .ref (md 5), .int 0, .ref (md 7), .ref (md 8), .ref (md 9), .ref (md 10), .ref (md 11), .ref (md 12), .ref (md 13), .ref (md 14), .int 0, .ref (md 16), .ref (md 17), .int 0, .ref (md 19), .ref (md 20), .ref (md 21), .ref (md 22), .ref (md 23), .int 0, .int 0, .ref (md 26), .ref (md 27), .ref (md 28), .ref (md 29), .int 0, .ref (md 31), .int 0, .ref (md 33), .ref (md 34), .int 0, .int 0, .int 0, .int 0, .int 0, .int 0, .int 0, .int 0, .int 0, .int 0, .ref (md 45), .ref (md 46), .ref (md 47), .ref (md 48), .ref (md 49), .ref (md 50), .ref (md 51), .int 0, .ref (md 53), .ref (md 54), .ref (md 55), .ref (md 56), .int 0, .ref (md 58), .ref (md 59), .ref (md 60), .int 0, .ref (md 62), .int 0]))]) (va_runV (C := RX10) (As := [.int (xs ((2 : Int32).toNatClampNeg))]) (rest := []) ⟨hx, hb, hml, hown, hts⟩ (ct_X10_kind l D cI cY cJ cQ _ ad (xs ((2 : Int32).toNatClampNeg))) (cwV 1 hts gL_law_X10_kind rfl rfl rfl (by decide +kernel) ⟨Nat.le_of_ble_eq_true rfl, Nat.le_of_ble_eq_true rfl⟩) (cPreV (hP.sub [0, 1] rfl) hK (hD.sub [0, 1] (by decide) rfl) hN (ci := 10) (q0 := 0) rfl rfl) rfl rfl hl.1 rfl (lv_room (Nat.le_of_ble_eq_true rfl)) dL_law_1510 ⟨Nat.le_of_ble_eq_true rfl, Nat.le_of_ble_eq_true rfl⟩) hP hD hS hA [0, 1] [2] rfl rfl (by decide) (by decide) (fun r4 u2 H locs hw3 hP hD hS => ?_)
  replace hP : va_P D vwCl [((md 64), .inr (11, [.int 0, .long (sd.toInt64), .int 0, .ref (md 3), .ref (md 4), .ref (md 5), .int 0, .ref (md 7), .ref (md 8), .ref (md 9), .ref (md 10), .ref (md 11), .ref (md 12), .ref (md 13), .ref (md 14), .int 0, .ref (md 16), .ref (md 17), .int 0, .ref (md 19), .ref (md 20), .ref (md 21), .ref (md 22), .ref (md 23), .int 0, .int 0, .ref (md 26), .ref (md 27), .ref (md 28), .ref (md 29), .int 0, .ref (md 31), .int 0, .ref (md 33), .ref (md 34), .int 0, .int 0, .int 0, .int 0, .int 0, .int 0, .int 0, .int 0, .int 0, .int 0, .ref (md 45), .ref (md 46), .ref (md 47), .ref (md 48), .ref (md 49), .ref (md 50), .ref (md 51), .int 0, .ref (md 53), .ref (md 54), .ref (md 55), .ref (md 56), .int 0, .ref (md 58), .ref (md 59), .ref (md 60), .int 0, .ref (md 62), .int 0]))] H := hP
  replace hD : va_D (fun q : Nat => s.heap.size ≤ q) [((md 64), .inr (11, [.int 0, .long (sd.toInt64), .int 0, .ref (md 3), .ref (md 4), .ref (md 5), .int 0, .ref (md 7), .ref (md 8), .ref (md 9), .ref (md 10), .ref (md 11), .ref (md 12), .ref (md 13), .ref (md 14), .int 0, .ref (md 16), .ref (md 17), .int 0, .ref (md 19), .ref (md 20), .ref (md 21), .ref (md 22), .ref (md 23), .int 0, .int 0, .ref (md 26), .ref (md 27), .ref (md 28), .ref (md 29), .int 0, .ref (md 31), .int 0, .ref (md 33), .ref (md 34), .int 0, .int 0, .int 0, .int 0, .int 0, .int 0, .int 0, .int 0, .int 0, .int 0, .ref (md 45), .ref (md 46), .ref (md 47), .ref (md 48), .ref (md 49), .ref (md 50), .ref (md 51), .int 0, .ref (md 53), .ref (md 54), .ref (md 55), .ref (md 56), .int 0, .ref (md 58), .ref (md 59), .ref (md 60), .int 0, .ref (md 62), .int 0]))] := hD
  refine lv_aload_n hx hb dL_law_1513 rfl (lv_at hl 2 rfl) ?_
  refine lv_aload_n hx hb dL_law_1514 rfl (lv_at hl 0 rfl) ?_
  refine lv_iload_n hx hb dL_law_1515 rfl (lv_at hl 3 rfl) ?_
  refine lv_iconst (v := 1) hx hb dL_law_1516 (by decide) ?_
  refine lv_iadd hx hb dL_law_1517 ?_
  refine lv_topi (fun v5 ev5 => ?_)
  replace ev5 : v5 = 2 := ev5.trans (by decide)
  subst ev5
  refine va_sld hx hb hX hbl hbA hS (i_in (by decide) (by decide)) dL_law_1518 ?_
  refine st_i (wr := []) (va_runV (C := RX11) (As := [.int (xs ((2 : Int32).toNatClampNeg))]) (rest := [.int r4]) ⟨hx, hb, hml, hown, hts⟩ (ct_X11_kind l D cI cY cJ cQ _ md sd (xs ((2 : Int32).toNatClampNeg))) (cwV 1 hts gL_law_X11_kind rfl rfl rfl (by decide +kernel) ⟨Nat.le_of_ble_eq_true rfl, Nat.le_of_ble_eq_true rfl⟩) (cPreV (hP.sub [0] rfl) hK (hD.sub [0] (by decide) rfl) hN (ci := 11) (q0 := 0) rfl rfl) rfl rfl hl.1 rfl (lv_room (Nat.le_of_ble_eq_true rfl)) dL_law_1519 ⟨Nat.le_of_ble_eq_true rfl, Nat.le_of_ble_eq_true rfl⟩) hP hD hS hA [0] [] rfl rfl (by decide) (by decide) (fun r8 u6 H locs hw7 hP hD hS => ?_)
  replace hP : va_P D vwCl [] H := hP
  replace hD : va_D (fun q : Nat => s.heap.size ≤ q) [] := hD
  refine lv_icmp_eq (tgt := 1652) hx hb dL_law_1522 (by decide) (fun _ => ?_) (fun c9 => by exfalso; exact c9 (hw3.trans hw7.symm))
  exact law_tail C0k hS (lv_sub hl [0, 3] rfl)

set_option maxHeartbeats 4000000 in
set_option maxRecDepth 100000 in
theorem law_case_33 {p : Program} {l : Launch} {e : Env} {s : State} {m : MethodId} {below : List Frame} {meth : Method} {c : Code} {D : va_G} {cI cY cJ cQ : ClassId} {b : Nat} {xs : Nat → Int32} {ad rw md : Nat → Nat} {sd : Int32} {H : Heap} {locs : List Loc} {ls : Array Slot} (C0 : lawC p s m meth c b xs D cI cY cJ cQ) (hP : va_P D vwCl [((ad 0), .inr (10, [.ref (ad 1), .ref (ad 2), .ref (ad 3), .ref (ad 4), .ref (ad 5), .ref (ad 6), .ref (ad 7), .ref (ad 8), .ref (ad 9), .ref (ad 10), .ref (ad 11), .int 0, .int 0, .int 0])), ((ad 3), .inr (1, [.ref (ad 31), .ref (ad 32), .ref (ad 33), .int 0, .ref (ad 34), .ref (ad 35)])), ((md 64), .inr (11, [.int 0, .long (sd.toInt64), .int 0, .ref (md 3), .ref (md 4), .ref (md 5), .int 0, .ref (md 7), .ref (md 8), .ref (md 9), .ref (md 10), .ref (md 11), .ref (md 12), .ref (md 13), .ref (md 14), .int 0, .ref (md 16), .ref (md 17), .int 0, .ref (md 19), .ref (md 20), .ref (md 21), .ref (md 22), .ref (md 23), .int 0, .int 0, .ref (md 26), .ref (md 27), .ref (md 28), .ref (md 29), .int 0, .ref (md 31), .int 0, .ref (md 33), .ref (md 34), .int 0, .int 0, .int 0, .int 0, .int 0, .int 0, .int 0, .int 0, .int 0, .int 0, .ref (md 45), .ref (md 46), .ref (md 47), .ref (md 48), .ref (md 49), .ref (md 50), .ref (md 51), .int 0, .ref (md 53), .ref (md 54), .ref (md 55), .ref (md 56), .int 0, .ref (md 58), .ref (md 59), .ref (md 60), .int 0, .ref (md 62), .int 0]))] H) (hD : va_D (fun q : Nat => s.heap.size ≤ q) [((ad 0), .inr (10, [.ref (ad 1), .ref (ad 2), .ref (ad 3), .ref (ad 4), .ref (ad 5), .ref (ad 6), .ref (ad 7), .ref (ad 8), .ref (ad 9), .ref (ad 10), .ref (ad 11), .int 0, .int 0, .int 0])), ((ad 3), .inr (1, [.ref (ad 31), .ref (ad 32), .ref (ad 33), .int 0, .ref (ad 34), .ref (ad 35)])), ((md 64), .inr (11, [.int 0, .long (sd.toInt64), .int 0, .ref (md 3), .ref (md 4), .ref (md 5), .int 0, .ref (md 7), .ref (md 8), .ref (md 9), .ref (md 10), .ref (md 11), .ref (md 12), .ref (md 13), .ref (md 14), .int 0, .ref (md 16), .ref (md 17), .int 0, .ref (md 19), .ref (md 20), .ref (md 21), .ref (md 22), .ref (md 23), .int 0, .int 0, .ref (md 26), .ref (md 27), .ref (md 28), .ref (md 29), .int 0, .ref (md 31), .int 0, .ref (md 33), .ref (md 34), .int 0, .int 0, .int 0, .int 0, .int 0, .int 0, .int 0, .int 0, .int 0, .int 0, .ref (md 45), .ref (md 46), .ref (md 47), .ref (md 48), .ref (md 49), .ref (md 50), .ref (md 51), .int 0, .ref (md 53), .ref (md 54), .ref (md 55), .ref (md 56), .int 0, .ref (md 58), .ref (md 59), .ref (md 60), .int 0, .ref (md 62), .int 0]))]) (hS : va_S (fun q : Nat => s.heap.size ≤ q) s.heap H locs) (hl : lv_has ls 4 [(0, .ref b), (1, .ref (ad 0)), (2, .ref (md 64)), (3, .int 1)]) : W p l e room_1 s m #[Value.ref b] below meth c H locs 107 4890 (lw_Z below #[Value.ref b] s) (F0 m 1527 ls []) := by
  have C0k := C0
  obtain ⟨C1, hK, hN⟩ := C0
  obtain ⟨hx, hb, hr, hml, hown, hts0, hX, hbl, hlocks, hgv⟩ := C1
  have hA : ∀ q : Nat, s.heap.size ≤ q → (fun q : Nat => s.heap.size ≤ q) q := fun _ h => h
  have hbA : ¬ (fun q : Nat => s.heap.size ≤ q) b := Nat.not_le.mpr hbl
  have hts : ∀ w ∈ wsL_law, w.before #[Value.ref b] s = true := fun w h => hts0 w (wsL_law_in w h)
  replace hown : s.vm.findClass RL = some m.cls := hown
  replace hb : c.code = cL_law := hb
  have hLI : (Int32.ofNat 7).toInt = 7 := by decide
  refine lv_aload_n hx hb dL_law_1527 rfl (lv_at hl 1 rfl) ?_
  refine lv_aload_n hx hb dL_law_1528 rfl (lv_at hl 0 rfl) ?_
  refine lv_iload_n hx hb dL_law_1529 rfl (lv_at hl 3 rfl) ?_
  refine lv_iconst (v := 1) hx hb dL_law_1530 (by decide) ?_
  refine lv_iadd hx hb dL_law_1531 ?_
  refine lv_topi (fun v1 ev1 => ?_)
  replace ev1 : v1 = 2 := ev1.trans (by decide)
  subst ev1
  refine va_sld hx hb hX hbl hbA hS (i_in (by decide) (by decide)) dL_law_1532 ?_
  refine lv_aload_n hx hb dL_law_1533 rfl (lv_at hl 0 rfl) ?_
  refine lv_iload_n hx hb dL_law_1534 rfl (lv_at hl 3 rfl) ?_
  refine lv_iconst (v := 2) hx hb dL_law_1535 (by decide) ?_
  refine lv_iadd hx hb dL_law_1536 ?_
  refine lv_topi (fun v2 ev2 => ?_)
  replace ev2 : v2 = 3 := ev2.trans (by decide)
  subst ev2
  refine va_sld hx hb hX hbl hbA hS (i_in (by decide) (by decide)) dL_law_1537 ?_
  refine st_i (wr := [((md 64), .inr (11, [.int 0, .long (sd.toInt64), .int 0, .ref (md 3), .ref (md 4), .ref (md 5), .int 0, .ref (md 7), .ref (md 8), .ref (md 9), .ref (md 10), .ref (md 11), .ref (md 12), .ref (md 13), .ref (md 14), .int 0, .ref (md 16), .ref (md 17), .int 0, .ref (md 19), .ref (md 20), .ref (md 21), .ref (md 22), .ref (md 23), .int 0, .int 0, .ref (md 26), .ref (md 27), .ref (md 28), .ref (md 29), .int 0, .ref (md 31), .int 0, .ref (md 33), .ref (md 34), .int 0, .int 0, .int 0, .int 0, .int 0, .int 0, .int 0, .int 0, .int 0, .int 0, .ref (md 45), .ref (md 46), .ref (md 47), .ref (md 48), .ref (md 49), .ref (md 50), .ref (md 51), .int 0, .ref (md 53), .ref (md 54), .ref (md 55), .ref (md 56), .int 0, .ref (md 58), .ref (md 59), .ref (md 60), .int 0, .ref (md 62), .int 0]))]) (va_runV (C := RX10) (As := [.int (xs ((2 : Int32).toNatClampNeg)), .int (xs ((3 : Int32).toNatClampNeg))]) (rest := []) ⟨hx, hb, hml, hown, hts⟩ (ct_X10_as l D cI cY cJ cQ _ ad (xs ((2 : Int32).toNatClampNeg)) (xs ((3 : Int32).toNatClampNeg))) (cwV 2 hts gL_law_X10_as rfl rfl rfl (by decide +kernel) ⟨Nat.le_of_ble_eq_true rfl, Nat.le_of_ble_eq_true rfl⟩) (cPreV (hP.sub [0, 1] rfl) hK (hD.sub [0, 1] (by decide) rfl) hN (ci := 10) (q0 := 0) rfl rfl) rfl rfl hl.1 rfl (lv_room (Nat.le_of_ble_eq_true rfl)) dL_law_1538 ⟨Nat.le_of_ble_eq_true rfl, Nat.le_of_ble_eq_true rfl⟩) hP hD hS hA [0, 1] [2] rfl rfl (by decide) (by decide) (fun r5 u3 H locs hw4 hP hD hS => ?_)
  replace hP : va_P D vwCl [((md 64), .inr (11, [.int 0, .long (sd.toInt64), .int 0, .ref (md 3), .ref (md 4), .ref (md 5), .int 0, .ref (md 7), .ref (md 8), .ref (md 9), .ref (md 10), .ref (md 11), .ref (md 12), .ref (md 13), .ref (md 14), .int 0, .ref (md 16), .ref (md 17), .int 0, .ref (md 19), .ref (md 20), .ref (md 21), .ref (md 22), .ref (md 23), .int 0, .int 0, .ref (md 26), .ref (md 27), .ref (md 28), .ref (md 29), .int 0, .ref (md 31), .int 0, .ref (md 33), .ref (md 34), .int 0, .int 0, .int 0, .int 0, .int 0, .int 0, .int 0, .int 0, .int 0, .int 0, .ref (md 45), .ref (md 46), .ref (md 47), .ref (md 48), .ref (md 49), .ref (md 50), .ref (md 51), .int 0, .ref (md 53), .ref (md 54), .ref (md 55), .ref (md 56), .int 0, .ref (md 58), .ref (md 59), .ref (md 60), .int 0, .ref (md 62), .int 0]))] H := hP
  replace hD : va_D (fun q : Nat => s.heap.size ≤ q) [((md 64), .inr (11, [.int 0, .long (sd.toInt64), .int 0, .ref (md 3), .ref (md 4), .ref (md 5), .int 0, .ref (md 7), .ref (md 8), .ref (md 9), .ref (md 10), .ref (md 11), .ref (md 12), .ref (md 13), .ref (md 14), .int 0, .ref (md 16), .ref (md 17), .int 0, .ref (md 19), .ref (md 20), .ref (md 21), .ref (md 22), .ref (md 23), .int 0, .int 0, .ref (md 26), .ref (md 27), .ref (md 28), .ref (md 29), .int 0, .ref (md 31), .int 0, .ref (md 33), .ref (md 34), .int 0, .int 0, .int 0, .int 0, .int 0, .int 0, .int 0, .int 0, .int 0, .int 0, .ref (md 45), .ref (md 46), .ref (md 47), .ref (md 48), .ref (md 49), .ref (md 50), .ref (md 51), .int 0, .ref (md 53), .ref (md 54), .ref (md 55), .ref (md 56), .int 0, .ref (md 58), .ref (md 59), .ref (md 60), .int 0, .ref (md 62), .int 0]))] := hD
  refine lv_aload_n hx hb dL_law_1541 rfl (lv_at hl 2 rfl) ?_
  refine lv_aload_n hx hb dL_law_1542 rfl (lv_at hl 0 rfl) ?_
  refine lv_iload_n hx hb dL_law_1543 rfl (lv_at hl 3 rfl) ?_
  refine lv_iconst (v := 1) hx hb dL_law_1544 (by decide) ?_
  refine lv_iadd hx hb dL_law_1545 ?_
  refine lv_topi (fun v6 ev6 => ?_)
  replace ev6 : v6 = 2 := ev6.trans (by decide)
  subst ev6
  refine va_sld hx hb hX hbl hbA hS (i_in (by decide) (by decide)) dL_law_1546 ?_
  refine lv_aload_n hx hb dL_law_1547 rfl (lv_at hl 0 rfl) ?_
  refine lv_iload_n hx hb dL_law_1548 rfl (lv_at hl 3 rfl) ?_
  refine lv_iconst (v := 2) hx hb dL_law_1549 (by decide) ?_
  refine lv_iadd hx hb dL_law_1550 ?_
  refine lv_topi (fun v7 ev7 => ?_)
  replace ev7 : v7 = 3 := ev7.trans (by decide)
  subst ev7
  refine va_sld hx hb hX hbl hbA hS (i_in (by decide) (by decide)) dL_law_1551 ?_
  refine st_i (wr := []) (va_runV (C := RX11) (As := [.int (xs ((2 : Int32).toNatClampNeg)), .int (xs ((3 : Int32).toNatClampNeg))]) (rest := [.int r5]) ⟨hx, hb, hml, hown, hts⟩ (ct_X11_as l D cI cY cJ cQ _ md sd (xs ((2 : Int32).toNatClampNeg)) (xs ((3 : Int32).toNatClampNeg))) (cwV 2 hts gL_law_X11_as rfl rfl rfl (by decide +kernel) ⟨Nat.le_of_ble_eq_true rfl, Nat.le_of_ble_eq_true rfl⟩) (cPreV (hP.sub [0] rfl) hK (hD.sub [0] (by decide) rfl) hN (ci := 11) (q0 := 0) rfl rfl) rfl rfl hl.1 rfl (lv_room (Nat.le_of_ble_eq_true rfl)) dL_law_1552 ⟨Nat.le_of_ble_eq_true rfl, Nat.le_of_ble_eq_true rfl⟩) hP hD hS hA [0] [] rfl rfl (by decide) (by decide) (fun r10 u8 H locs hw9 hP hD hS => ?_)
  replace hP : va_P D vwCl [] H := hP
  replace hD : va_D (fun q : Nat => s.heap.size ≤ q) [] := hD
  refine lv_icmp_eq (tgt := 1652) hx hb dL_law_1555 (by decide) (fun _ => ?_) (fun c11 => by exfalso; exact c11 (hw4.trans hw9.symm))
  exact law_tail C0k hS (lv_sub hl [0, 3] rfl)

set_option maxHeartbeats 4000000 in
set_option maxRecDepth 100000 in
theorem law_case_34 {p : Program} {l : Launch} {e : Env} {s : State} {m : MethodId} {below : List Frame} {meth : Method} {c : Code} {D : va_G} {cI cY cJ cQ : ClassId} {b : Nat} {xs : Nat → Int32} {ad rw md : Nat → Nat} {sd : Int32} {H : Heap} {locs : List Loc} {ls : Array Slot} (C0 : lawC p s m meth c b xs D cI cY cJ cQ) (hP : va_P D vwCl [((ad 0), .inr (10, [.ref (ad 1), .ref (ad 2), .ref (ad 3), .ref (ad 4), .ref (ad 5), .ref (ad 6), .ref (ad 7), .ref (ad 8), .ref (ad 9), .ref (ad 10), .ref (ad 11), .int 0, .int 0, .int 0])), ((ad 3), .inr (1, [.ref (ad 31), .ref (ad 32), .ref (ad 33), .int 0, .ref (ad 34), .ref (ad 35)])), ((md 64), .inr (11, [.int 0, .long (sd.toInt64), .int 0, .ref (md 3), .ref (md 4), .ref (md 5), .int 0, .ref (md 7), .ref (md 8), .ref (md 9), .ref (md 10), .ref (md 11), .ref (md 12), .ref (md 13), .ref (md 14), .int 0, .ref (md 16), .ref (md 17), .int 0, .ref (md 19), .ref (md 20), .ref (md 21), .ref (md 22), .ref (md 23), .int 0, .int 0, .ref (md 26), .ref (md 27), .ref (md 28), .ref (md 29), .int 0, .ref (md 31), .int 0, .ref (md 33), .ref (md 34), .int 0, .int 0, .int 0, .int 0, .int 0, .int 0, .int 0, .int 0, .int 0, .int 0, .ref (md 45), .ref (md 46), .ref (md 47), .ref (md 48), .ref (md 49), .ref (md 50), .ref (md 51), .int 0, .ref (md 53), .ref (md 54), .ref (md 55), .ref (md 56), .int 0, .ref (md 58), .ref (md 59), .ref (md 60), .int 0, .ref (md 62), .int 0]))] H) (hD : va_D (fun q : Nat => s.heap.size ≤ q) [((ad 0), .inr (10, [.ref (ad 1), .ref (ad 2), .ref (ad 3), .ref (ad 4), .ref (ad 5), .ref (ad 6), .ref (ad 7), .ref (ad 8), .ref (ad 9), .ref (ad 10), .ref (ad 11), .int 0, .int 0, .int 0])), ((ad 3), .inr (1, [.ref (ad 31), .ref (ad 32), .ref (ad 33), .int 0, .ref (ad 34), .ref (ad 35)])), ((md 64), .inr (11, [.int 0, .long (sd.toInt64), .int 0, .ref (md 3), .ref (md 4), .ref (md 5), .int 0, .ref (md 7), .ref (md 8), .ref (md 9), .ref (md 10), .ref (md 11), .ref (md 12), .ref (md 13), .ref (md 14), .int 0, .ref (md 16), .ref (md 17), .int 0, .ref (md 19), .ref (md 20), .ref (md 21), .ref (md 22), .ref (md 23), .int 0, .int 0, .ref (md 26), .ref (md 27), .ref (md 28), .ref (md 29), .int 0, .ref (md 31), .int 0, .ref (md 33), .ref (md 34), .int 0, .int 0, .int 0, .int 0, .int 0, .int 0, .int 0, .int 0, .int 0, .int 0, .ref (md 45), .ref (md 46), .ref (md 47), .ref (md 48), .ref (md 49), .ref (md 50), .ref (md 51), .int 0, .ref (md 53), .ref (md 54), .ref (md 55), .ref (md 56), .int 0, .ref (md 58), .ref (md 59), .ref (md 60), .int 0, .ref (md 62), .int 0]))]) (hS : va_S (fun q : Nat => s.heap.size ≤ q) s.heap H locs) (hl : lv_has ls 4 [(0, .ref b), (1, .ref (ad 0)), (2, .ref (md 64)), (3, .int 1)]) : W p l e room_1 s m #[Value.ref b] below meth c H locs 107 4890 (lw_Z below #[Value.ref b] s) (F0 m 1560 ls []) := by
  have C0k := C0
  obtain ⟨C1, hK, hN⟩ := C0
  obtain ⟨hx, hb, hr, hml, hown, hts0, hX, hbl, hlocks, hgv⟩ := C1
  have hA : ∀ q : Nat, s.heap.size ≤ q → (fun q : Nat => s.heap.size ≤ q) q := fun _ h => h
  have hbA : ¬ (fun q : Nat => s.heap.size ≤ q) b := Nat.not_le.mpr hbl
  have hts : ∀ w ∈ wsL_law, w.before #[Value.ref b] s = true := fun w h => hts0 w (wsL_law_in w h)
  replace hown : s.vm.findClass RL = some m.cls := hown
  replace hb : c.code = cL_law := hb
  have hLI : (Int32.ofNat 7).toInt = 7 := by decide
  refine lv_aload_n hx hb dL_law_1560 rfl (lv_at hl 1 rfl) ?_
  refine lv_aload_n hx hb dL_law_1561 rfl (lv_at hl 0 rfl) ?_
  refine lv_iload_n hx hb dL_law_1562 rfl (lv_at hl 3 rfl) ?_
  refine lv_iconst (v := 1) hx hb dL_law_1563 (by decide) ?_
  refine lv_iadd hx hb dL_law_1564 ?_
  refine lv_topi (fun v1 ev1 => ?_)
  replace ev1 : v1 = 2 := ev1.trans (by decide)
  subst ev1
  refine va_sld hx hb hX hbl hbA hS (i_in (by decide) (by decide)) dL_law_1565 ?_
  refine lv_aload_n hx hb dL_law_1566 rfl (lv_at hl 0 rfl) ?_
  refine lv_iload_n hx hb dL_law_1567 rfl (lv_at hl 3 rfl) ?_
  refine lv_iconst (v := 2) hx hb dL_law_1568 (by decide) ?_
  refine lv_iadd hx hb dL_law_1569 ?_
  refine lv_topi (fun v2 ev2 => ?_)
  replace ev2 : v2 = 3 := ev2.trans (by decide)
  subst ev2
  refine va_sld hx hb hX hbl hbA hS (i_in (by decide) (by decide)) dL_law_1570 ?_
  refine st_i (wr := [((md 64), .inr (11, [.int 0, .long (sd.toInt64), .int 0, .ref (md 3), .ref (md 4), .ref (md 5), .int 0, .ref (md 7), .ref (md 8), .ref (md 9), .ref (md 10), .ref (md 11), .ref (md 12), .ref (md 13), .ref (md 14), .int 0, .ref (md 16), .ref (md 17), .int 0, .ref (md 19), .ref (md 20), .ref (md 21), .ref (md 22), .ref (md 23), .int 0, .int 0, .ref (md 26), .ref (md 27), .ref (md 28), .ref (md 29), .int 0, .ref (md 31), .int 0, .ref (md 33), .ref (md 34), .int 0, .int 0, .int 0, .int 0, .int 0, .int 0, .int 0, .int 0, .int 0, .int 0, .ref (md 45), .ref (md 46), .ref (md 47), .ref (md 48), .ref (md 49), .ref (md 50), .ref (md 51), .int 0, .ref (md 53), .ref (md 54), .ref (md 55), .ref (md 56), .int 0, .ref (md 58), .ref (md 59), .ref (md 60), .int 0, .ref (md 62), .int 0]))]) (va_runV (C := RX10) (As := [.int (xs ((2 : Int32).toNatClampNeg)), .int (xs ((3 : Int32).toNatClampNeg))]) (rest := []) ⟨hx, hb, hml, hown, hts⟩ (ct_X10_ask l D cI cY cJ cQ _ ad (xs ((2 : Int32).toNatClampNeg)) (xs ((3 : Int32).toNatClampNeg))) (cwV 2 hts gL_law_X10_ask rfl rfl rfl (by decide +kernel) ⟨Nat.le_of_ble_eq_true rfl, Nat.le_of_ble_eq_true rfl⟩) (cPreV (hP.sub [0, 1] rfl) hK (hD.sub [0, 1] (by decide) rfl) hN (ci := 10) (q0 := 0) rfl rfl) rfl rfl hl.1 rfl (lv_room (Nat.le_of_ble_eq_true rfl)) dL_law_1571 ⟨Nat.le_of_ble_eq_true rfl, Nat.le_of_ble_eq_true rfl⟩) hP hD hS hA [0, 1] [2] rfl rfl (by decide) (by decide) (fun r5 u3 H locs hw4 hP hD hS => ?_)
  replace hP : va_P D vwCl [((md 64), .inr (11, [.int 0, .long (sd.toInt64), .int 0, .ref (md 3), .ref (md 4), .ref (md 5), .int 0, .ref (md 7), .ref (md 8), .ref (md 9), .ref (md 10), .ref (md 11), .ref (md 12), .ref (md 13), .ref (md 14), .int 0, .ref (md 16), .ref (md 17), .int 0, .ref (md 19), .ref (md 20), .ref (md 21), .ref (md 22), .ref (md 23), .int 0, .int 0, .ref (md 26), .ref (md 27), .ref (md 28), .ref (md 29), .int 0, .ref (md 31), .int 0, .ref (md 33), .ref (md 34), .int 0, .int 0, .int 0, .int 0, .int 0, .int 0, .int 0, .int 0, .int 0, .int 0, .ref (md 45), .ref (md 46), .ref (md 47), .ref (md 48), .ref (md 49), .ref (md 50), .ref (md 51), .int 0, .ref (md 53), .ref (md 54), .ref (md 55), .ref (md 56), .int 0, .ref (md 58), .ref (md 59), .ref (md 60), .int 0, .ref (md 62), .int 0]))] H := hP
  replace hD : va_D (fun q : Nat => s.heap.size ≤ q) [((md 64), .inr (11, [.int 0, .long (sd.toInt64), .int 0, .ref (md 3), .ref (md 4), .ref (md 5), .int 0, .ref (md 7), .ref (md 8), .ref (md 9), .ref (md 10), .ref (md 11), .ref (md 12), .ref (md 13), .ref (md 14), .int 0, .ref (md 16), .ref (md 17), .int 0, .ref (md 19), .ref (md 20), .ref (md 21), .ref (md 22), .ref (md 23), .int 0, .int 0, .ref (md 26), .ref (md 27), .ref (md 28), .ref (md 29), .int 0, .ref (md 31), .int 0, .ref (md 33), .ref (md 34), .int 0, .int 0, .int 0, .int 0, .int 0, .int 0, .int 0, .int 0, .int 0, .int 0, .ref (md 45), .ref (md 46), .ref (md 47), .ref (md 48), .ref (md 49), .ref (md 50), .ref (md 51), .int 0, .ref (md 53), .ref (md 54), .ref (md 55), .ref (md 56), .int 0, .ref (md 58), .ref (md 59), .ref (md 60), .int 0, .ref (md 62), .int 0]))] := hD
  refine lv_aload_n hx hb dL_law_1574 rfl (lv_at hl 2 rfl) ?_
  refine lv_aload_n hx hb dL_law_1575 rfl (lv_at hl 0 rfl) ?_
  refine lv_iload_n hx hb dL_law_1576 rfl (lv_at hl 3 rfl) ?_
  refine lv_iconst (v := 1) hx hb dL_law_1577 (by decide) ?_
  refine lv_iadd hx hb dL_law_1578 ?_
  refine lv_topi (fun v6 ev6 => ?_)
  replace ev6 : v6 = 2 := ev6.trans (by decide)
  subst ev6
  refine va_sld hx hb hX hbl hbA hS (i_in (by decide) (by decide)) dL_law_1579 ?_
  refine lv_aload_n hx hb dL_law_1580 rfl (lv_at hl 0 rfl) ?_
  refine lv_iload_n hx hb dL_law_1581 rfl (lv_at hl 3 rfl) ?_
  refine lv_iconst (v := 2) hx hb dL_law_1582 (by decide) ?_
  refine lv_iadd hx hb dL_law_1583 ?_
  refine lv_topi (fun v7 ev7 => ?_)
  replace ev7 : v7 = 3 := ev7.trans (by decide)
  subst ev7
  refine va_sld hx hb hX hbl hbA hS (i_in (by decide) (by decide)) dL_law_1584 ?_
  refine st_i (wr := []) (va_runV (C := RX11) (As := [.int (xs ((2 : Int32).toNatClampNeg)), .int (xs ((3 : Int32).toNatClampNeg))]) (rest := [.int r5]) ⟨hx, hb, hml, hown, hts⟩ (ct_X11_ask l D cI cY cJ cQ _ md sd (xs ((2 : Int32).toNatClampNeg)) (xs ((3 : Int32).toNatClampNeg))) (cwV 2 hts gL_law_X11_ask rfl rfl rfl (by decide +kernel) ⟨Nat.le_of_ble_eq_true rfl, Nat.le_of_ble_eq_true rfl⟩) (cPreV (hP.sub [0] rfl) hK (hD.sub [0] (by decide) rfl) hN (ci := 11) (q0 := 0) rfl rfl) rfl rfl hl.1 rfl (lv_room (Nat.le_of_ble_eq_true rfl)) dL_law_1585 ⟨Nat.le_of_ble_eq_true rfl, Nat.le_of_ble_eq_true rfl⟩) hP hD hS hA [0] [] rfl rfl (by decide) (by decide) (fun r10 u8 H locs hw9 hP hD hS => ?_)
  replace hP : va_P D vwCl [] H := hP
  replace hD : va_D (fun q : Nat => s.heap.size ≤ q) [] := hD
  refine lv_icmp_eq (tgt := 1652) hx hb dL_law_1588 (by decide) (fun _ => ?_) (fun c11 => by exfalso; exact c11 (hw4.trans hw9.symm))
  exact law_tail C0k hS (lv_sub hl [0, 3] rfl)

set_option maxHeartbeats 4000000 in
set_option maxRecDepth 100000 in
theorem law_case_35 {p : Program} {l : Launch} {e : Env} {s : State} {m : MethodId} {below : List Frame} {meth : Method} {c : Code} {D : va_G} {cI cY cJ cQ : ClassId} {b : Nat} {xs : Nat → Int32} {ad rw md : Nat → Nat} {sd : Int32} {H : Heap} {locs : List Loc} {ls : Array Slot} (C0 : lawC p s m meth c b xs D cI cY cJ cQ) (hP : va_P D vwCl [((ad 0), .inr (10, [.ref (ad 1), .ref (ad 2), .ref (ad 3), .ref (ad 4), .ref (ad 5), .ref (ad 6), .ref (ad 7), .ref (ad 8), .ref (ad 9), .ref (ad 10), .ref (ad 11), .int 0, .int 0, .int 0])), ((md 64), .inr (11, [.int 0, .long (sd.toInt64), .int 0, .ref (md 3), .ref (md 4), .ref (md 5), .int 0, .ref (md 7), .ref (md 8), .ref (md 9), .ref (md 10), .ref (md 11), .ref (md 12), .ref (md 13), .ref (md 14), .int 0, .ref (md 16), .ref (md 17), .int 0, .ref (md 19), .ref (md 20), .ref (md 21), .ref (md 22), .ref (md 23), .int 0, .int 0, .ref (md 26), .ref (md 27), .ref (md 28), .ref (md 29), .int 0, .ref (md 31), .int 0, .ref (md 33), .ref (md 34), .int 0, .int 0, .int 0, .int 0, .int 0, .int 0, .int 0, .int 0, .int 0, .int 0, .ref (md 45), .ref (md 46), .ref (md 47), .ref (md 48), .ref (md 49), .ref (md 50), .ref (md 51), .int 0, .ref (md 53), .ref (md 54), .ref (md 55), .ref (md 56), .int 0, .ref (md 58), .ref (md 59), .ref (md 60), .int 0, .ref (md 62), .int 0]))] H) (hD : va_D (fun q : Nat => s.heap.size ≤ q) [((ad 0), .inr (10, [.ref (ad 1), .ref (ad 2), .ref (ad 3), .ref (ad 4), .ref (ad 5), .ref (ad 6), .ref (ad 7), .ref (ad 8), .ref (ad 9), .ref (ad 10), .ref (ad 11), .int 0, .int 0, .int 0])), ((md 64), .inr (11, [.int 0, .long (sd.toInt64), .int 0, .ref (md 3), .ref (md 4), .ref (md 5), .int 0, .ref (md 7), .ref (md 8), .ref (md 9), .ref (md 10), .ref (md 11), .ref (md 12), .ref (md 13), .ref (md 14), .int 0, .ref (md 16), .ref (md 17), .int 0, .ref (md 19), .ref (md 20), .ref (md 21), .ref (md 22), .ref (md 23), .int 0, .int 0, .ref (md 26), .ref (md 27), .ref (md 28), .ref (md 29), .int 0, .ref (md 31), .int 0, .ref (md 33), .ref (md 34), .int 0, .int 0, .int 0, .int 0, .int 0, .int 0, .int 0, .int 0, .int 0, .int 0, .ref (md 45), .ref (md 46), .ref (md 47), .ref (md 48), .ref (md 49), .ref (md 50), .ref (md 51), .int 0, .ref (md 53), .ref (md 54), .ref (md 55), .ref (md 56), .int 0, .ref (md 58), .ref (md 59), .ref (md 60), .int 0, .ref (md 62), .int 0]))]) (hS : va_S (fun q : Nat => s.heap.size ≤ q) s.heap H locs) (hl : lv_has ls 4 [(0, .ref b), (1, .ref (ad 0)), (2, .ref (md 64)), (3, .int 1)]) : W p l e room_1 s m #[Value.ref b] below meth c H locs 107 4890 (lw_Z below #[Value.ref b] s) (F0 m 1593 ls []) := by
  have C0k := C0
  obtain ⟨C1, hK, hN⟩ := C0
  obtain ⟨hx, hb, hr, hml, hown, hts0, hX, hbl, hlocks, hgv⟩ := C1
  have hA : ∀ q : Nat, s.heap.size ≤ q → (fun q : Nat => s.heap.size ≤ q) q := fun _ h => h
  have hbA : ¬ (fun q : Nat => s.heap.size ≤ q) b := Nat.not_le.mpr hbl
  have hts : ∀ w ∈ wsL_law, w.before #[Value.ref b] s = true := fun w h => hts0 w (wsL_law_in w h)
  replace hown : s.vm.findClass RL = some m.cls := hown
  replace hb : c.code = cL_law := hb
  have hLI : (Int32.ofNat 7).toInt = 7 := by decide
  refine lv_aload_n hx hb dL_law_1593 rfl (lv_at hl 1 rfl) ?_
  refine lv_aload_n hx hb dL_law_1594 rfl (lv_at hl 0 rfl) ?_
  refine lv_iload_n hx hb dL_law_1595 rfl (lv_at hl 3 rfl) ?_
  refine lv_iconst (v := 1) hx hb dL_law_1596 (by decide) ?_
  refine lv_iadd hx hb dL_law_1597 ?_
  refine lv_topi (fun v1 ev1 => ?_)
  replace ev1 : v1 = 2 := ev1.trans (by decide)
  subst ev1
  refine va_sld hx hb hX hbl hbA hS (i_in (by decide) (by decide)) dL_law_1598 ?_
  refine st_i (wr := [((md 64), .inr (11, [.int 0, .long (sd.toInt64), .int 0, .ref (md 3), .ref (md 4), .ref (md 5), .int 0, .ref (md 7), .ref (md 8), .ref (md 9), .ref (md 10), .ref (md 11), .ref (md 12), .ref (md 13), .ref (md 14), .int 0, .ref (md 16), .ref (md 17), .int 0, .ref (md 19), .ref (md 20), .ref (md 21), .ref (md 22), .ref (md 23), .int 0, .int 0, .ref (md 26), .ref (md 27), .ref (md 28), .ref (md 29), .int 0, .ref (md 31), .int 0, .ref (md 33), .ref (md 34), .int 0, .int 0, .int 0, .int 0, .int 0, .int 0, .int 0, .int 0, .int 0, .int 0, .ref (md 45), .ref (md 46), .ref (md 47), .ref (md 48), .ref (md 49), .ref (md 50), .ref (md 51), .int 0, .ref (md 53), .ref (md 54), .ref (md 55), .ref (md 56), .int 0, .ref (md 58), .ref (md 59), .ref (md 60), .int 0, .ref (md 62), .int 0]))]) (va_runV (C := RX10) (As := [.int (xs ((2 : Int32).toNatClampNeg))]) (rest := []) ⟨hx, hb, hml, hown, hts⟩ (ct_X10_trace l D cI cY cJ cQ _ ad (xs ((2 : Int32).toNatClampNeg))) (cwV 1 hts gL_law_X10_trace rfl rfl rfl (by decide +kernel) ⟨Nat.le_of_ble_eq_true rfl, Nat.le_of_ble_eq_true rfl⟩) (cPreV (hP.sub [0] rfl) hK (hD.sub [0] (by decide) rfl) hN (ci := 10) (q0 := 0) rfl rfl) rfl rfl hl.1 rfl (lv_room (Nat.le_of_ble_eq_true rfl)) dL_law_1599 ⟨Nat.le_of_ble_eq_true rfl, Nat.le_of_ble_eq_true rfl⟩) hP hD hS hA [0] [1] rfl rfl (by decide) (by decide) (fun r4 u2 H locs hw3 hP hD hS => ?_)
  replace hP : va_P D vwCl [((md 64), .inr (11, [.int 0, .long (sd.toInt64), .int 0, .ref (md 3), .ref (md 4), .ref (md 5), .int 0, .ref (md 7), .ref (md 8), .ref (md 9), .ref (md 10), .ref (md 11), .ref (md 12), .ref (md 13), .ref (md 14), .int 0, .ref (md 16), .ref (md 17), .int 0, .ref (md 19), .ref (md 20), .ref (md 21), .ref (md 22), .ref (md 23), .int 0, .int 0, .ref (md 26), .ref (md 27), .ref (md 28), .ref (md 29), .int 0, .ref (md 31), .int 0, .ref (md 33), .ref (md 34), .int 0, .int 0, .int 0, .int 0, .int 0, .int 0, .int 0, .int 0, .int 0, .int 0, .ref (md 45), .ref (md 46), .ref (md 47), .ref (md 48), .ref (md 49), .ref (md 50), .ref (md 51), .int 0, .ref (md 53), .ref (md 54), .ref (md 55), .ref (md 56), .int 0, .ref (md 58), .ref (md 59), .ref (md 60), .int 0, .ref (md 62), .int 0]))] H := hP
  replace hD : va_D (fun q : Nat => s.heap.size ≤ q) [((md 64), .inr (11, [.int 0, .long (sd.toInt64), .int 0, .ref (md 3), .ref (md 4), .ref (md 5), .int 0, .ref (md 7), .ref (md 8), .ref (md 9), .ref (md 10), .ref (md 11), .ref (md 12), .ref (md 13), .ref (md 14), .int 0, .ref (md 16), .ref (md 17), .int 0, .ref (md 19), .ref (md 20), .ref (md 21), .ref (md 22), .ref (md 23), .int 0, .int 0, .ref (md 26), .ref (md 27), .ref (md 28), .ref (md 29), .int 0, .ref (md 31), .int 0, .ref (md 33), .ref (md 34), .int 0, .int 0, .int 0, .int 0, .int 0, .int 0, .int 0, .int 0, .int 0, .int 0, .ref (md 45), .ref (md 46), .ref (md 47), .ref (md 48), .ref (md 49), .ref (md 50), .ref (md 51), .int 0, .ref (md 53), .ref (md 54), .ref (md 55), .ref (md 56), .int 0, .ref (md 58), .ref (md 59), .ref (md 60), .int 0, .ref (md 62), .int 0]))] := hD
  refine lv_aload_n hx hb dL_law_1602 rfl (lv_at hl 2 rfl) ?_
  refine lv_aload_n hx hb dL_law_1603 rfl (lv_at hl 0 rfl) ?_
  refine lv_iload_n hx hb dL_law_1604 rfl (lv_at hl 3 rfl) ?_
  refine lv_iconst (v := 1) hx hb dL_law_1605 (by decide) ?_
  refine lv_iadd hx hb dL_law_1606 ?_
  refine lv_topi (fun v5 ev5 => ?_)
  replace ev5 : v5 = 2 := ev5.trans (by decide)
  subst ev5
  refine va_sld hx hb hX hbl hbA hS (i_in (by decide) (by decide)) dL_law_1607 ?_
  refine st_i (wr := []) (va_runV (C := RX11) (As := [.int (xs ((2 : Int32).toNatClampNeg))]) (rest := [.int r4]) ⟨hx, hb, hml, hown, hts⟩ (ct_X11_trace l D cI cY cJ cQ _ md sd (xs ((2 : Int32).toNatClampNeg))) (cwV 1 hts gL_law_X11_trace rfl rfl rfl (by decide +kernel) ⟨Nat.le_of_ble_eq_true rfl, Nat.le_of_ble_eq_true rfl⟩) (cPreV (hP.sub [0] rfl) hK (hD.sub [0] (by decide) rfl) hN (ci := 11) (q0 := 0) rfl rfl) rfl rfl hl.1 rfl (lv_room (Nat.le_of_ble_eq_true rfl)) dL_law_1608 ⟨Nat.le_of_ble_eq_true rfl, Nat.le_of_ble_eq_true rfl⟩) hP hD hS hA [0] [] rfl rfl (by decide) (by decide) (fun r8 u6 H locs hw7 hP hD hS => ?_)
  replace hP : va_P D vwCl [] H := hP
  replace hD : va_D (fun q : Nat => s.heap.size ≤ q) [] := hD
  refine lv_icmp_eq (tgt := 1652) hx hb dL_law_1611 (by decide) (fun _ => ?_) (fun c9 => by exfalso; exact c9 (hw3.trans hw7.symm))
  exact law_tail C0k hS (lv_sub hl [0, 3] rfl)

set_option maxHeartbeats 4000000 in
set_option maxRecDepth 100000 in
theorem law_case_36 {p : Program} {l : Launch} {e : Env} {s : State} {m : MethodId} {below : List Frame} {meth : Method} {c : Code} {D : va_G} {cI cY cJ cQ : ClassId} {b : Nat} {xs : Nat → Int32} {ad rw md : Nat → Nat} {sd : Int32} {H : Heap} {locs : List Loc} {ls : Array Slot} (C0 : lawC p s m meth c b xs D cI cY cJ cQ) (hP : va_P D vwCl [((ad 0), .inr (10, [.ref (ad 1), .ref (ad 2), .ref (ad 3), .ref (ad 4), .ref (ad 5), .ref (ad 6), .ref (ad 7), .ref (ad 8), .ref (ad 9), .ref (ad 10), .ref (ad 11), .int 0, .int 0, .int 0])), ((ad 1), .inr (9, [.ref (ad 12), .ref (ad 13), .ref (ad 14)])), ((ad 14), .inl (cI, 8, .inl (fun _ => (-1)))), ((ad 2), .inr (3, [.ref (ad 23), .ref (ad 24), .ref (ad 25), .ref (ad 26), .int 0, .ref (ad 27), .ref (ad 28), .ref (ad 29), .ref (ad 30)])), ((ad 3), .inr (1, [.ref (ad 31), .ref (ad 32), .ref (ad 33), .int 0, .ref (ad 34), .ref (ad 35)])), ((ad 4), .inr (7, [.ref (ad 36), .ref (ad 37), .ref (ad 38), .ref (ad 39), .ref (ad 40), .ref (ad 41), .int 0])), ((ad 5), .inr (8, [.ref (ad 42), .ref (ad 43), .ref (ad 44), .ref (ad 45), .int 0, .ref (ad 46)])), ((ad 6), .inr (2, [.ref (ad 47), .int 0, .int 0, .ref (ad 48), .ref (ad 49), .ref (ad 50), .int 0, .ref (ad 51), .ref (ad 52), .ref (ad 53), .int 0, .int 0, .int 0, .int 0, .int 0])), ((ad 7), .inr (0, [.ref (ad 54), .ref (ad 55), .ref (ad 56), .ref (ad 57), .int 0])), ((ad 9), .inr (6, [.ref (ad 59), .ref (ad 60), .ref (ad 61), .ref (ad 62), .int 0])), ((ad 10), .inr (4, [.ref (ad 63), .ref (ad 64), .ref (ad 65), .int 0])), ((md 64), .inr (11, [.int 0, .long (sd.toInt64), .int 0, .ref (md 3), .ref (md 4), .ref (md 5), .int 0, .ref (md 7), .ref (md 8), .ref (md 9), .ref (md 10), .ref (md 11), .ref (md 12), .ref (md 13), .ref (md 14), .int 0, .ref (md 16), .ref (md 17), .int 0, .ref (md 19), .ref (md 20), .ref (md 21), .ref (md 22), .ref (md 23), .int 0, .int 0, .ref (md 26), .ref (md 27), .ref (md 28), .ref (md 29), .int 0, .ref (md 31), .int 0, .ref (md 33), .ref (md 34), .int 0, .int 0, .int 0, .int 0, .int 0, .int 0, .int 0, .int 0, .int 0, .int 0, .ref (md 45), .ref (md 46), .ref (md 47), .ref (md 48), .ref (md 49), .ref (md 50), .ref (md 51), .int 0, .ref (md 53), .ref (md 54), .ref (md 55), .ref (md 56), .int 0, .ref (md 58), .ref (md 59), .ref (md 60), .int 0, .ref (md 62), .int 0])), ((md 3), .inl (cI, 8, .inl (fun _ => (-1))))] H) (hD : va_D (fun q : Nat => s.heap.size ≤ q) [((ad 0), .inr (10, [.ref (ad 1), .ref (ad 2), .ref (ad 3), .ref (ad 4), .ref (ad 5), .ref (ad 6), .ref (ad 7), .ref (ad 8), .ref (ad 9), .ref (ad 10), .ref (ad 11), .int 0, .int 0, .int 0])), ((ad 1), .inr (9, [.ref (ad 12), .ref (ad 13), .ref (ad 14)])), ((ad 14), .inl (cI, 8, .inl (fun _ => (-1)))), ((ad 2), .inr (3, [.ref (ad 23), .ref (ad 24), .ref (ad 25), .ref (ad 26), .int 0, .ref (ad 27), .ref (ad 28), .ref (ad 29), .ref (ad 30)])), ((ad 3), .inr (1, [.ref (ad 31), .ref (ad 32), .ref (ad 33), .int 0, .ref (ad 34), .ref (ad 35)])), ((ad 4), .inr (7, [.ref (ad 36), .ref (ad 37), .ref (ad 38), .ref (ad 39), .ref (ad 40), .ref (ad 41), .int 0])), ((ad 5), .inr (8, [.ref (ad 42), .ref (ad 43), .ref (ad 44), .ref (ad 45), .int 0, .ref (ad 46)])), ((ad 6), .inr (2, [.ref (ad 47), .int 0, .int 0, .ref (ad 48), .ref (ad 49), .ref (ad 50), .int 0, .ref (ad 51), .ref (ad 52), .ref (ad 53), .int 0, .int 0, .int 0, .int 0, .int 0])), ((ad 7), .inr (0, [.ref (ad 54), .ref (ad 55), .ref (ad 56), .ref (ad 57), .int 0])), ((ad 9), .inr (6, [.ref (ad 59), .ref (ad 60), .ref (ad 61), .ref (ad 62), .int 0])), ((ad 10), .inr (4, [.ref (ad 63), .ref (ad 64), .ref (ad 65), .int 0])), ((md 64), .inr (11, [.int 0, .long (sd.toInt64), .int 0, .ref (md 3), .ref (md 4), .ref (md 5), .int 0, .ref (md 7), .ref (md 8), .ref (md 9), .ref (md 10), .ref (md 11), .ref (md 12), .ref (md 13), .ref (md 14), .int 0, .ref (md 16), .ref (md 17), .int 0, .ref (md 19), .ref (md 20), .ref (md 21), .ref (md 22), .ref (md 23), .int 0, .int 0, .ref (md 26), .ref (md 27), .ref (md 28), .ref (md 29), .int 0, .ref (md 31), .int 0, .ref (md 33), .ref (md 34), .int 0, .int 0, .int 0, .int 0, .int 0, .int 0, .int 0, .int 0, .int 0, .int 0, .ref (md 45), .ref (md 46), .ref (md 47), .ref (md 48), .ref (md 49), .ref (md 50), .ref (md 51), .int 0, .ref (md 53), .ref (md 54), .ref (md 55), .ref (md 56), .int 0, .ref (md 58), .ref (md 59), .ref (md 60), .int 0, .ref (md 62), .int 0])), ((md 3), .inl (cI, 8, .inl (fun _ => (-1))))]) (hS : va_S (fun q : Nat => s.heap.size ≤ q) s.heap H locs) (hl : lv_has ls 4 [(0, .ref b), (1, .ref (ad 0)), (2, .ref (md 64)), (3, .int 1)]) : W p l e room_1 s m #[Value.ref b] below meth c H locs 107 4890 (lw_Z below #[Value.ref b] s) (F0 m 1616 ls []) := by
  have C0k := C0
  obtain ⟨C1, hK, hN⟩ := C0
  obtain ⟨hx, hb, hr, hml, hown, hts0, hX, hbl, hlocks, hgv⟩ := C1
  have hA : ∀ q : Nat, s.heap.size ≤ q → (fun q : Nat => s.heap.size ≤ q) q := fun _ h => h
  have hbA : ¬ (fun q : Nat => s.heap.size ≤ q) b := Nat.not_le.mpr hbl
  have hts : ∀ w ∈ wsL_law, w.before #[Value.ref b] s = true := fun w h => hts0 w (wsL_law_in w h)
  replace hown : s.vm.findClass RL = some m.cls := hown
  replace hb : c.code = cL_law := hb
  have hLI : (Int32.ofNat 7).toInt = 7 := by decide
  refine lv_aload_n hx hb dL_law_1616 rfl (lv_at hl 1 rfl) ?_
  refine lv_aload_n hx hb dL_law_1617 rfl (lv_at hl 0 rfl) ?_
  refine lv_iload_n hx hb dL_law_1618 rfl (lv_at hl 3 rfl) ?_
  refine lv_iconst (v := 1) hx hb dL_law_1619 (by decide) ?_
  refine lv_iadd hx hb dL_law_1620 ?_
  refine lv_topi (fun v1 ev1 => ?_)
  replace ev1 : v1 = 2 := ev1.trans (by decide)
  subst ev1
  refine va_sld hx hb hX hbl hbA hS (i_in (by decide) (by decide)) dL_law_1621 ?_
  refine st_i (wr := [((md 64), .inr (11, [.int 0, .long (sd.toInt64), .int 0, .ref (md 3), .ref (md 4), .ref (md 5), .int 0, .ref (md 7), .ref (md 8), .ref (md 9), .ref (md 10), .ref (md 11), .ref (md 12), .ref (md 13), .ref (md 14), .int 0, .ref (md 16), .ref (md 17), .int 0, .ref (md 19), .ref (md 20), .ref (md 21), .ref (md 22), .ref (md 23), .int 0, .int 0, .ref (md 26), .ref (md 27), .ref (md 28), .ref (md 29), .int 0, .ref (md 31), .int 0, .ref (md 33), .ref (md 34), .int 0, .int 0, .int 0, .int 0, .int 0, .int 0, .int 0, .int 0, .int 0, .int 0, .ref (md 45), .ref (md 46), .ref (md 47), .ref (md 48), .ref (md 49), .ref (md 50), .ref (md 51), .int 0, .ref (md 53), .ref (md 54), .ref (md 55), .ref (md 56), .int 0, .ref (md 58), .ref (md 59), .ref (md 60), .int 0, .ref (md 62), .int 0])), ((md 3), .inl (cI, 8, .inl (fun _ => (-1))))]) (va_runV (C := RX10) (As := [.int (xs ((2 : Int32).toNatClampNeg))]) (rest := []) ⟨hx, hb, hml, hown, hts⟩ (ct_X10_count l D cI cY cJ cQ _ ad (xs ((2 : Int32).toNatClampNeg))) (cwV 1 hts gL_law_X10_count rfl rfl rfl (by decide +kernel) ⟨Nat.le_of_ble_eq_true rfl, Nat.le_of_ble_eq_true rfl⟩) (cPreV (hP.sub [0, 1, 2, 3, 4, 5, 6, 7, 8, 9, 10] rfl) hK (hD.sub [0, 1, 2, 3, 4, 5, 6, 7, 8, 9, 10] (by decide) rfl) hN (ci := 10) (q0 := 0) rfl rfl) rfl rfl hl.1 rfl (lv_room (Nat.le_of_ble_eq_true rfl)) dL_law_1622 ⟨Nat.le_of_ble_eq_true rfl, Nat.le_of_ble_eq_true rfl⟩) hP hD hS hA [0, 1, 2, 3, 4, 5, 6, 7, 8, 9, 10] [11, 12] rfl rfl (by decide) (by decide) (fun r4 u2 H locs hw3 hP hD hS => ?_)
  replace hP : va_P D vwCl [((md 64), .inr (11, [.int 0, .long (sd.toInt64), .int 0, .ref (md 3), .ref (md 4), .ref (md 5), .int 0, .ref (md 7), .ref (md 8), .ref (md 9), .ref (md 10), .ref (md 11), .ref (md 12), .ref (md 13), .ref (md 14), .int 0, .ref (md 16), .ref (md 17), .int 0, .ref (md 19), .ref (md 20), .ref (md 21), .ref (md 22), .ref (md 23), .int 0, .int 0, .ref (md 26), .ref (md 27), .ref (md 28), .ref (md 29), .int 0, .ref (md 31), .int 0, .ref (md 33), .ref (md 34), .int 0, .int 0, .int 0, .int 0, .int 0, .int 0, .int 0, .int 0, .int 0, .int 0, .ref (md 45), .ref (md 46), .ref (md 47), .ref (md 48), .ref (md 49), .ref (md 50), .ref (md 51), .int 0, .ref (md 53), .ref (md 54), .ref (md 55), .ref (md 56), .int 0, .ref (md 58), .ref (md 59), .ref (md 60), .int 0, .ref (md 62), .int 0])), ((md 3), .inl (cI, 8, .inl (fun _ => (-1))))] H := hP
  replace hD : va_D (fun q : Nat => s.heap.size ≤ q) [((md 64), .inr (11, [.int 0, .long (sd.toInt64), .int 0, .ref (md 3), .ref (md 4), .ref (md 5), .int 0, .ref (md 7), .ref (md 8), .ref (md 9), .ref (md 10), .ref (md 11), .ref (md 12), .ref (md 13), .ref (md 14), .int 0, .ref (md 16), .ref (md 17), .int 0, .ref (md 19), .ref (md 20), .ref (md 21), .ref (md 22), .ref (md 23), .int 0, .int 0, .ref (md 26), .ref (md 27), .ref (md 28), .ref (md 29), .int 0, .ref (md 31), .int 0, .ref (md 33), .ref (md 34), .int 0, .int 0, .int 0, .int 0, .int 0, .int 0, .int 0, .int 0, .int 0, .int 0, .ref (md 45), .ref (md 46), .ref (md 47), .ref (md 48), .ref (md 49), .ref (md 50), .ref (md 51), .int 0, .ref (md 53), .ref (md 54), .ref (md 55), .ref (md 56), .int 0, .ref (md 58), .ref (md 59), .ref (md 60), .int 0, .ref (md 62), .int 0])), ((md 3), .inl (cI, 8, .inl (fun _ => (-1))))] := hD
  refine lv_aload_n hx hb dL_law_1625 rfl (lv_at hl 2 rfl) ?_
  refine lv_aload_n hx hb dL_law_1626 rfl (lv_at hl 0 rfl) ?_
  refine lv_iload_n hx hb dL_law_1627 rfl (lv_at hl 3 rfl) ?_
  refine lv_iconst (v := 1) hx hb dL_law_1628 (by decide) ?_
  refine lv_iadd hx hb dL_law_1629 ?_
  refine lv_topi (fun v5 ev5 => ?_)
  replace ev5 : v5 = 2 := ev5.trans (by decide)
  subst ev5
  refine va_sld hx hb hX hbl hbA hS (i_in (by decide) (by decide)) dL_law_1630 ?_
  refine st_i (wr := []) (va_runV (C := RX11) (As := [.int (xs ((2 : Int32).toNatClampNeg))]) (rest := [.int r4]) ⟨hx, hb, hml, hown, hts⟩ (ct_X11_count l D cI cY cJ cQ _ md sd (xs ((2 : Int32).toNatClampNeg))) (cwV 1 hts gL_law_X11_count rfl rfl rfl (by decide +kernel) ⟨Nat.le_of_ble_eq_true rfl, Nat.le_of_ble_eq_true rfl⟩) (cPreV (hP.sub [0, 1] rfl) hK (hD.sub [0, 1] (by decide) rfl) hN (ci := 11) (q0 := 0) rfl rfl) rfl rfl hl.1 rfl (lv_room (Nat.le_of_ble_eq_true rfl)) dL_law_1631 ⟨Nat.le_of_ble_eq_true rfl, Nat.le_of_ble_eq_true rfl⟩) hP hD hS hA [0, 1] [] rfl rfl (by decide) (by decide) (fun r8 u6 H locs hw7 hP hD hS => ?_)
  replace hP : va_P D vwCl [] H := hP
  replace hD : va_D (fun q : Nat => s.heap.size ≤ q) [] := hD
  refine lv_icmp_eq (tgt := 1652) hx hb dL_law_1634 (by decide) (fun _ => ?_) (fun c9 => by exfalso; exact c9 (hw3.trans hw7.symm))
  exact law_tail C0k hS (lv_sub hl [0, 3] rfl)

set_option maxHeartbeats 4000000 in
set_option maxRecDepth 100000 in
theorem law_case_37 {p : Program} {l : Launch} {e : Env} {s : State} {m : MethodId} {below : List Frame} {meth : Method} {c : Code} {D : va_G} {cI cY cJ cQ : ClassId} {b : Nat} {xs : Nat → Int32} {ad rw md : Nat → Nat} {sd : Int32} {H : Heap} {locs : List Loc} {ls : Array Slot} (C0 : lawC p s m meth c b xs D cI cY cJ cQ) (hP : va_P D vwCl [((ad 0), .inr (10, [.ref (ad 1), .ref (ad 2), .ref (ad 3), .ref (ad 4), .ref (ad 5), .ref (ad 6), .ref (ad 7), .ref (ad 8), .ref (ad 9), .ref (ad 10), .ref (ad 11), .int 0, .int 0, .int 0])), ((md 64), .inr (11, [.int 0, .long (sd.toInt64), .int 0, .ref (md 3), .ref (md 4), .ref (md 5), .int 0, .ref (md 7), .ref (md 8), .ref (md 9), .ref (md 10), .ref (md 11), .ref (md 12), .ref (md 13), .ref (md 14), .int 0, .ref (md 16), .ref (md 17), .int 0, .ref (md 19), .ref (md 20), .ref (md 21), .ref (md 22), .ref (md 23), .int 0, .int 0, .ref (md 26), .ref (md 27), .ref (md 28), .ref (md 29), .int 0, .ref (md 31), .int 0, .ref (md 33), .ref (md 34), .int 0, .int 0, .int 0, .int 0, .int 0, .int 0, .int 0, .int 0, .int 0, .int 0, .ref (md 45), .ref (md 46), .ref (md 47), .ref (md 48), .ref (md 49), .ref (md 50), .ref (md 51), .int 0, .ref (md 53), .ref (md 54), .ref (md 55), .ref (md 56), .int 0, .ref (md 58), .ref (md 59), .ref (md 60), .int 0, .ref (md 62), .int 0]))] H) (hD : va_D (fun q : Nat => s.heap.size ≤ q) [((ad 0), .inr (10, [.ref (ad 1), .ref (ad 2), .ref (ad 3), .ref (ad 4), .ref (ad 5), .ref (ad 6), .ref (ad 7), .ref (ad 8), .ref (ad 9), .ref (ad 10), .ref (ad 11), .int 0, .int 0, .int 0])), ((md 64), .inr (11, [.int 0, .long (sd.toInt64), .int 0, .ref (md 3), .ref (md 4), .ref (md 5), .int 0, .ref (md 7), .ref (md 8), .ref (md 9), .ref (md 10), .ref (md 11), .ref (md 12), .ref (md 13), .ref (md 14), .int 0, .ref (md 16), .ref (md 17), .int 0, .ref (md 19), .ref (md 20), .ref (md 21), .ref (md 22), .ref (md 23), .int 0, .int 0, .ref (md 26), .ref (md 27), .ref (md 28), .ref (md 29), .int 0, .ref (md 31), .int 0, .ref (md 33), .ref (md 34), .int 0, .int 0, .int 0, .int 0, .int 0, .int 0, .int 0, .int 0, .int 0, .int 0, .ref (md 45), .ref (md 46), .ref (md 47), .ref (md 48), .ref (md 49), .ref (md 50), .ref (md 51), .int 0, .ref (md 53), .ref (md 54), .ref (md 55), .ref (md 56), .int 0, .ref (md 58), .ref (md 59), .ref (md 60), .int 0, .ref (md 62), .int 0]))]) (hS : va_S (fun q : Nat => s.heap.size ≤ q) s.heap H locs) (hl : lv_has ls 4 [(0, .ref b), (1, .ref (ad 0)), (2, .ref (md 64)), (3, .int 1)]) : W p l e room_1 s m #[Value.ref b] below meth c H locs 107 4890 (lw_Z below #[Value.ref b] s) (F0 m 1639 ls []) := by
  have C0k := C0
  obtain ⟨C1, hK, hN⟩ := C0
  obtain ⟨hx, hb, hr, hml, hown, hts0, hX, hbl, hlocks, hgv⟩ := C1
  have hA : ∀ q : Nat, s.heap.size ≤ q → (fun q : Nat => s.heap.size ≤ q) q := fun _ h => h
  have hbA : ¬ (fun q : Nat => s.heap.size ≤ q) b := Nat.not_le.mpr hbl
  have hts : ∀ w ∈ wsL_law, w.before #[Value.ref b] s = true := fun w h => hts0 w (wsL_law_in w h)
  replace hown : s.vm.findClass RL = some m.cls := hown
  replace hb : c.code = cL_law := hb
  have hLI : (Int32.ofNat 7).toInt = 7 := by decide
  refine lv_aload_n hx hb dL_law_1639 rfl (lv_at hl 1 rfl) ?_
  refine st_i (wr := [((md 64), .inr (11, [.int 0, .long (sd.toInt64), .int 0, .ref (md 3), .ref (md 4), .ref (md 5), .int 0, .ref (md 7), .ref (md 8), .ref (md 9), .ref (md 10), .ref (md 11), .ref (md 12), .ref (md 13), .ref (md 14), .int 0, .ref (md 16), .ref (md 17), .int 0, .ref (md 19), .ref (md 20), .ref (md 21), .ref (md 22), .ref (md 23), .int 0, .int 0, .ref (md 26), .ref (md 27), .ref (md 28), .ref (md 29), .int 0, .ref (md 31), .int 0, .ref (md 33), .ref (md 34), .int 0, .int 0, .int 0, .int 0, .int 0, .int 0, .int 0, .int 0, .int 0, .int 0, .ref (md 45), .ref (md 46), .ref (md 47), .ref (md 48), .ref (md 49), .ref (md 50), .ref (md 51), .int 0, .ref (md 53), .ref (md 54), .ref (md 55), .ref (md 56), .int 0, .ref (md 58), .ref (md 59), .ref (md 60), .int 0, .ref (md 62), .int 0]))]) (va_runV (C := RX10) (As := []) (rest := []) ⟨hx, hb, hml, hown, hts⟩ (ct_X10_status l D cI cY cJ cQ _ ad) (cwV 0 hts gL_law_X10_status rfl rfl rfl (by decide +kernel) ⟨Nat.le_of_ble_eq_true rfl, Nat.le_of_ble_eq_true rfl⟩) (cPreV (hP.sub [0] rfl) hK (hD.sub [0] (by decide) rfl) hN (ci := 10) (q0 := 0) rfl rfl) rfl rfl hl.1 rfl (lv_room (Nat.le_of_ble_eq_true rfl)) dL_law_1640 ⟨Nat.le_of_ble_eq_true rfl, Nat.le_of_ble_eq_true rfl⟩) hP hD hS hA [0] [1] rfl rfl (by decide) (by decide) (fun r3 u1 H locs hw2 hP hD hS => ?_)
  replace hP : va_P D vwCl [((md 64), .inr (11, [.int 0, .long (sd.toInt64), .int 0, .ref (md 3), .ref (md 4), .ref (md 5), .int 0, .ref (md 7), .ref (md 8), .ref (md 9), .ref (md 10), .ref (md 11), .ref (md 12), .ref (md 13), .ref (md 14), .int 0, .ref (md 16), .ref (md 17), .int 0, .ref (md 19), .ref (md 20), .ref (md 21), .ref (md 22), .ref (md 23), .int 0, .int 0, .ref (md 26), .ref (md 27), .ref (md 28), .ref (md 29), .int 0, .ref (md 31), .int 0, .ref (md 33), .ref (md 34), .int 0, .int 0, .int 0, .int 0, .int 0, .int 0, .int 0, .int 0, .int 0, .int 0, .ref (md 45), .ref (md 46), .ref (md 47), .ref (md 48), .ref (md 49), .ref (md 50), .ref (md 51), .int 0, .ref (md 53), .ref (md 54), .ref (md 55), .ref (md 56), .int 0, .ref (md 58), .ref (md 59), .ref (md 60), .int 0, .ref (md 62), .int 0]))] H := hP
  replace hD : va_D (fun q : Nat => s.heap.size ≤ q) [((md 64), .inr (11, [.int 0, .long (sd.toInt64), .int 0, .ref (md 3), .ref (md 4), .ref (md 5), .int 0, .ref (md 7), .ref (md 8), .ref (md 9), .ref (md 10), .ref (md 11), .ref (md 12), .ref (md 13), .ref (md 14), .int 0, .ref (md 16), .ref (md 17), .int 0, .ref (md 19), .ref (md 20), .ref (md 21), .ref (md 22), .ref (md 23), .int 0, .int 0, .ref (md 26), .ref (md 27), .ref (md 28), .ref (md 29), .int 0, .ref (md 31), .int 0, .ref (md 33), .ref (md 34), .int 0, .int 0, .int 0, .int 0, .int 0, .int 0, .int 0, .int 0, .int 0, .int 0, .ref (md 45), .ref (md 46), .ref (md 47), .ref (md 48), .ref (md 49), .ref (md 50), .ref (md 51), .int 0, .ref (md 53), .ref (md 54), .ref (md 55), .ref (md 56), .int 0, .ref (md 58), .ref (md 59), .ref (md 60), .int 0, .ref (md 62), .int 0]))] := hD
  refine lv_aload_n hx hb dL_law_1643 rfl (lv_at hl 2 rfl) ?_
  refine st_i (wr := []) (va_runV (C := RX11) (As := []) (rest := [.int r3]) ⟨hx, hb, hml, hown, hts⟩ (ct_X11_status l D cI cY cJ cQ _ md sd) (cwV 0 hts gL_law_X11_status rfl rfl rfl (by decide +kernel) ⟨Nat.le_of_ble_eq_true rfl, Nat.le_of_ble_eq_true rfl⟩) (cPreV (hP.sub [0] rfl) hK (hD.sub [0] (by decide) rfl) hN (ci := 11) (q0 := 0) rfl rfl) rfl rfl hl.1 rfl (lv_room (Nat.le_of_ble_eq_true rfl)) dL_law_1644 ⟨Nat.le_of_ble_eq_true rfl, Nat.le_of_ble_eq_true rfl⟩) hP hD hS hA [0] [] rfl rfl (by decide) (by decide) (fun r6 u4 H locs hw5 hP hD hS => ?_)
  replace hP : va_P D vwCl [] H := hP
  replace hD : va_D (fun q : Nat => s.heap.size ≤ q) [] := hD
  refine lv_icmp_eq (tgt := 1652) hx hb dL_law_1647 (by decide) (fun _ => ?_) (fun c7 => by exfalso; exact c7 (hw2.trans hw5.symm))
  exact law_tail C0k hS (lv_sub hl [0, 3] rfl)
