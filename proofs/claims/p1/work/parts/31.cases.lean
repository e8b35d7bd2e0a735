set_option maxRecDepth 20000 in
theorem ggL_law_X10_sheet : GoodIn wsL_law wsX10_sheet := goodIn_r _ [199, 200, 20, 201, 202, 2, 203, 204, 205, 206, 207, 208, 209, 210, 211, 212, 19, 213, 64, 65, 66, 67, 68, 69, 70, 214, 215, 216, 217, 1142, 1143, 1144, 1145, 1146, 1147, 1148, 1149, 1150, 1151, 1152, 1153, 1154, 1155, 1220, 1221, 1222] (by decide +kernel) (by decide +kernel)
set_option maxRecDepth 20000 in
theorem gL_law_X10_sheet : GoodIn wsL_law (wsV RL 21 RX10 yX10_sheet wsX10_sheet) := goodIn_app (goodIn_of _ (by decide +kernel)) ggL_law_X10_sheet
set_option maxRecDepth 20000 in
theorem ggL_law_X11_sheet : GoodIn wsL_law wsX11_sheet := goodIn_r _ [221, 222, 223, 224, 225, 153, 154, 155, 226, 227, 5, 228, 229, 230, 231, 232, 233, 234, 235, 236, 237, 1156, 1157, 1158, 1159, 1160, 1161, 1162, 1163, 1164, 1165, 1166, 1167, 1168, 1169, 1170, 1171, 1172, 1173, 1174, 1175, 1176, 1177, 1178, 1179, 1180, 1181, 1182, 1183, 1184, 1185, 1186, 1187, 1188, 1189, 1190, 1191, 1192, 1193, 1194, 1195, 1196, 1197, 1198, 1199, 1200, 1201, 1202, 1203, 1204, 1205, 1206, 1207, 1208, 1209, 1210, 1211, 1212, 1213, 1214, 1215, 1216, 1217, 1218, 1219] (by decide +kernel) (by decide +kernel)
set_option maxRecDepth 20000 in
theorem gL_law_X11_sheet : GoodIn wsL_law (wsV RL 25 RX11 yX11_sheet wsX11_sheet) := goodIn_app (goodIn_of _ (by decide +kernel)) ggL_law_X11_sheet
set_option maxRecDepth 20000 in
theorem ggL_law_X10_set : GoodIn wsL_law wsX10_set := goodIn_r _ [241, 200, 20, 201, 202, 2, 203, 242, 243, 244, 19, 245, 66, 204, 205, 206, 207, 208, 209, 246, 247, 248, 249, 250, 251, 252, 253, 65, 64, 214, 215, 216, 217, 1142, 1143, 1144, 1145, 1146, 1147, 1148, 1149, 1150, 1151, 1152, 1153, 1154, 1155, 1220, 1221, 1222] (by decide +kernel) (by decide +kernel)
set_option maxRecDepth 20000 in
theorem gL_law_X10_set : GoodIn wsL_law (wsV RL 26 RX10 yX10_set wsX10_set) := goodIn_app (goodIn_of _ (by decide +kernel)) ggL_law_X10_set
set_option maxRecDepth 20000 in
theorem ggL_law_X11_set : GoodIn wsL_law wsX11_set := goodIn_r _ [257, 222, 224, 225, 153, 154, 155, 226, 227, 5, 228, 229, 230, 231, 232, 233, 234, 235, 236, 237, 1156, 1157, 1158, 1159, 1160, 1161, 1162, 1163, 1164, 1165, 1166, 1167, 1168, 1169, 1170, 1171, 1172, 1173, 1174, 1175, 1176, 1177, 1178, 1179, 1180, 1181, 1182, 1183, 1184, 1185, 1186, 1187, 1188, 1189, 1190, 1191, 1192, 1193, 1194, 1195, 1196, 1197, 1198, 1199, 1200, 1201, 1202, 1203, 1204, 1205, 1206, 1207, 1208, 1209, 1210, 1211, 1212, 1213, 1214, 1215, 1216, 1217, 1218, 1219] (by decide +kernel) (by decide +kernel)
set_option maxRecDepth 20000 in
theorem gL_law_X11_set : GoodIn wsL_law (wsV RL 29 RX11 yX11_set wsX11_set) := goodIn_app (goodIn_of _ (by decide +kernel)) ggL_law_X11_set
set_option maxRecDepth 20000 in
theorem ggL_law_X10_copy : GoodIn wsL_law wsX10_copy := goodIn_r _ [261, 200, 20, 262, 263, 264, 265, 266, 267, 201, 202, 2, 203, 242, 243, 244, 19, 245, 66, 204, 205, 206, 207, 208, 209, 246, 247, 248, 249, 214, 215, 216, 217, 1142, 1143, 1144, 1145, 1146, 1147, 1148, 1149, 1150, 1151, 1152, 1153, 1154, 1155, 1220, 1221, 1222] (by decide +kernel) (by decide +kernel)
set_option maxRecDepth 20000 in
theorem gL_law_X10_copy : GoodIn wsL_law (wsV RL 30 RX10 yX10_copy wsX10_copy) := goodIn_app (goodIn_of _ (by decide +kernel)) ggL_law_X10_copy
set_option maxRecDepth 20000 in
theorem ggL_law_X11_copy : GoodIn wsL_law wsX11_copy := goodIn_r _ [271, 222, 224, 225, 153, 154, 155, 226, 227, 5, 228, 229, 230, 231, 232, 233, 234, 235, 236, 237, 1156, 1157, 1158, 1159, 1160, 1161, 1162, 1163, 1164, 1165, 1166, 1167, 1168, 1169, 1170, 1171, 1172, 1173, 1174, 1175, 1176, 1177, 1178, 1179, 1180, 1181, 1182, 1183, 1184, 1185, 1186, 1187, 1188, 1189, 1190, 1191, 1192, 1193, 1194, 1195, 1196, 1197, 1198, 1199, 1200, 1201, 1202, 1203, 1204, 1205, 1206, 1207, 1208, 1209, 1210, 1211, 1212, 1213, 1214, 1215, 1216, 1217, 1218, 1219] (by decide +kernel) (by decide +kernel)
set_option maxRecDepth 20000 in
theorem gL_law_X11_copy : GoodIn wsL_law (wsV RL 34 RX11 yX11_copy wsX11_copy) := goodIn_app (goodIn_of _ (by decide +kernel)) ggL_law_X11_copy
set_option maxRecDepth 20000 in
theorem ggL_law_X10_drop : GoodIn wsL_law wsX10_drop := goodIn_r _ [275, 200, 20, 276, 201, 202, 2, 203, 242, 243, 244, 19, 245, 66, 204, 205, 206, 207, 208, 209, 277, 278, 279, 280, 214, 215, 216, 217, 1142, 1143, 1144, 1145, 1146, 1147, 1148, 1149, 1150, 1151, 1152, 1153, 1154, 1155, 1220, 1221, 1222] (by decide +kernel) (by decide +kernel)
set_option maxRecDepth 20000 in
theorem gL_law_X10_drop : GoodIn wsL_law (wsV RL 35 RX10 yX10_drop wsX10_drop) := goodIn_app (goodIn_of _ (by decide +kernel)) ggL_law_X10_drop
set_option maxRecDepth 20000 in
theorem ggL_law_X11_drop : GoodIn wsL_law wsX11_drop := goodIn_r _ [284, 222, 224, 225, 153, 154, 226, 227, 5, 228, 229, 230, 231, 232, 233, 234, 235, 236, 237, 1156, 1157, 1158, 1159, 1160, 1161, 1162, 1163, 1164, 1165, 1166, 1167, 1168, 1169, 1170, 1171, 1172, 1173, 1174, 1175, 1176, 1177, 1178, 1179, 1180, 1181, 1182, 1183, 1184, 1185, 1186, 1187, 1188, 1189, 1190, 1191, 1192, 1193, 1194, 1195, 1196, 1197, 1198, 1199, 1200, 1201, 1202, 1203, 1204, 1205, 1206, 1207, 1208, 1209, 1210, 1211, 1212, 1213, 1214, 1215, 1216, 1217, 1218, 1219] (by decide +kernel) (by decide +kernel)
set_option maxRecDepth 20000 in
theorem gL_law_X11_drop : GoodIn wsL_law (wsV RL 39 RX11 yX11_drop wsX11_drop) := goodIn_app (goodIn_of _ (by decide +kernel)) ggL_law_X11_drop
set_option maxRecDepth 20000 in
theorem ggL_law_X10_hold : GoodIn wsL_law wsX10_hold := goodIn_r _ [288, 200, 24, 289, 290, 291, 292, 2, 293, 294, 295, 296, 201, 202, 203, 297, 298, 299, 300, 301, 302, 303, 304, 305, 306, 307, 308, 23, 309, 74, 310, 75, 76, 77, 1142, 1143, 1144, 1145, 1146, 1147, 1148, 1149, 1150, 1151, 1152, 1153, 1154, 1155, 1223, 1224, 1225, 1226, 1227, 1228, 1229, 1230, 1231] (by decide +kernel) (by decide +kernel)
set_option maxRecDepth 20000 in
theorem gL_law_X10_hold : GoodIn wsL_law (wsV RL 40 RX10 yX10_hold wsX10_hold) := goodIn_app (goodIn_of _ (by decide +kernel)) ggL_law_X10_hold
set_option maxRecDepth 20000 in
theorem ggL_law_X11_hold : GoodIn wsL_law wsX11_hold := goodIn_r _ [314, 222, 315, 316, 317, 5, 318, 319, 224, 320, 321, 156, 157, 158, 159, 322, 323, 324, 325, 230, 231, 232, 326, 327, 328, 329, 330, 331, 332, 333, 1156, 1157, 1158, 1159, 1160, 1161, 1162, 1163, 1164, 1165, 1166, 1167, 1168, 1169, 1170, 1171, 1172, 1173, 1174, 1175, 1176, 1177, 1178, 1179, 1180, 1181, 1182, 1183, 1184, 1185, 1186, 1187, 1188, 1189, 1190, 1191, 1192, 1193, 1194, 1195, 1196, 1197, 1198, 1199, 1200, 1201, 1202, 1203, 1204, 1205, 1206, 1207, 1208, 1209, 1210, 1211, 1212, 1213, 1214, 1215, 1216, 1217, 1218, 1219] (by decide +kernel) (by decide +kernel)
set_option maxRecDepth 20000 in
theorem gL_law_X11_hold : GoodIn wsL_law (wsV RL 44 RX11 yX11_hold wsX11_hold) := goodIn_app (goodIn_of _ (by decide +kernel)) ggL_law_X11_hold
set_option maxRecDepth 20000 in
theorem ggL_law_X10_holds : GoodIn wsL_law wsX10_holds := goodIn_r _ [337, 200, 20, 263, 201, 202, 2, 203, 300, 301, 302, 242, 243, 244, 19, 245, 66, 204, 205, 206, 207, 208, 209, 246, 247, 248, 249, 338, 286, 287, 288, 24, 289, 290, 291, 292, 293, 294, 295, 296, 297, 298, 299, 303, 304, 305, 306, 307, 308, 23, 309, 74, 310, 75, 76, 77, 214, 215, 216, 217, 1142, 1143, 1144, 1145, 1146, 1147, 1148, 1149, 1150, 1151, 1152, 1153, 1154, 1155, 1220, 1221, 1222, 1223, 1224, 1225, 1226, 1227, 1228, 1229, 1230, 1231] (by decide +kernel) (by decide +kernel)
set_option maxRecDepth 20000 in
theorem gL_law_X10_holds : GoodIn wsL_law (wsV RL 45 RX10 yX10_holds wsX10_holds) := goodIn_app (goodIn_of _ (by decide +kernel)) ggL_law_X10_holds
set_option maxRecDepth 20000 in
theorem ggL_law_X11_holds : GoodIn wsL_law wsX11_holds := goodIn_r _ [342, 222, 343, 224, 225, 153, 154, 155, 226, 227, 5, 228, 229, 230, 231, 232, 233, 234, 235, 236, 237, 315, 316, 317, 318, 319, 320, 321, 156, 157, 158, 159, 322, 323, 324, 325, 326, 327, 328, 329, 330, 331, 332, 333, 1156, 1157, 1158, 1159, 1160, 1161, 1162, 1163, 1164, 1165, 1166, 1167, 1168, 1169, 1170, 1171, 1172, 1173, 1174, 1175, 1176, 1177, 1178, 1179, 1180, 1181, 1182, 1183, 1184, 1185, 1186, 1187, 1188, 1189, 1190, 1191, 1192, 1193, 1194, 1195, 1196, 1197, 1198, 1199, 1200, 1201, 1202, 1203, 1204, 1205, 1206, 1207, 1208, 1209, 1210, 1211, 1212, 1213, 1214, 1215, 1216, 1217, 1218, 1219] (by decide +kernel) (by decide +kernel)
set_option maxRecDepth 20000 in
theorem gL_law_X11_holds : GoodIn wsL_law (wsV RL 48 RX11 yX11_holds wsX11_holds) := goodIn_app (goodIn_of _ (by decide +kernel)) ggL_law_X11_holds
set_option maxRecDepth 20000 in
theorem ggL_law_X10_percent : GoodIn wsL_law wsX10_percent := goodIn_r _ [347, 200, 24, 291, 292, 2, 293, 294, 295, 296, 201, 202, 203, 297, 298, 299, 303, 304, 305, 348, 349, 350, 23, 351, 78, 79, 310, 74, 75, 77, 76, 352, 68, 69, 70, 353, 354, 355, 356, 357, 358, 359, 80, 360, 361, 362, 363, 81, 364, 265, 266, 267, 365, 366, 367, 368, 369, 370, 1142, 1143, 1144, 1145, 1146, 1147, 1148, 1149, 1150, 1151, 1152, 1153, 1154, 1155, 1223, 1224, 1225, 1226, 1227, 1228, 1229, 1230, 1231] (by decide +kernel) (by decide +kernel)
set_option maxRecDepth 20000 in
theorem gL_law_X10_percent : GoodIn wsL_law (wsV RL 49 RX10 yX10_percent wsX10_percent) := goodIn_app (goodIn_of _ (by decide +kernel)) ggL_law_X10_percent
set_option maxRecDepth 20000 in
theorem ggL_law_X11_percent : GoodIn wsL_law wsX11_percent := goodIn_r _ [374, 222, 224, 322, 323, 5, 324, 325, 230, 231, 232, 326, 327, 328, 329, 330, 331, 332, 333, 375, 376, 377, 378, 194, 320, 156, 157, 159, 158, 1156, 1157, 1158, 1159, 1160, 1161, 1162, 1163, 1164, 1165, 1166, 1167, 1168, 1169, 1170, 1171, 1172, 1173, 1174, 1175, 1176, 1177, 1178, 1179, 1180, 1181, 1182, 1183, 1184, 1185, 1186, 1187, 1188, 1189, 1190, 1191, 1192, 1193, 1194, 1195, 1196, 1197, 1198, 1199, 1200, 1201, 1202, 1203, 1204, 1205, 1206, 1207, 1208, 1209, 1210, 1211, 1212, 1213, 1214, 1215, 1216, 1217, 1218, 1219] (by decide +kernel) (by decide +kernel)
set_option maxRecDepth 20000 in
theorem gL_law_X11_percent : GoodIn wsL_law (wsV RL 52 RX11 yX11_percent wsX11_percent) := goodIn_app (goodIn_of _ (by decide +kernel)) ggL_law_X11_percent
set_option maxRecDepth 20000 in
theorem ggL_law_X10_share : GoodIn wsL_law wsX10_share := goodIn_r _ [382, 200, 24, 297, 298, 2, 299, 201, 202, 203, 294, 295, 296, 303, 304, 305, 348, 349, 350, 23, 351, 78, 79, 310, 74, 75, 77, 76, 352, 68, 69, 70, 353, 354, 355, 356, 357, 358, 359, 80, 360, 361, 362, 363, 81, 364, 265, 266, 267, 365, 366, 383, 384, 385, 386, 387, 388, 389, 390, 391, 392, 393, 394, 395, 396, 397, 398, 399, 400, 368, 369, 370, 1142, 1143, 1144, 1145, 1146, 1147, 1148, 1149, 1150, 1151, 1152, 1153, 1154, 1155, 1223, 1224, 1225, 1226, 1227, 1228, 1229, 1230, 1231] (by decide +kernel) (by decide +kernel)
set_option maxRecDepth 20000 in
theorem gL_law_X10_share : GoodIn wsL_law (wsV RL 53 RX10 yX10_share wsX10_share) := goodIn_app (goodIn_of _ (by decide +kernel)) ggL_law_X10_share
set_option maxRecDepth 20000 in
theorem ggL_law_X11_share : GoodIn wsL_law wsX11_share := goodIn_r _ [404, 222, 224, 405, 406, 5, 407, 408, 230, 231, 232, 322, 323, 324, 325, 330, 331, 332, 333, 409, 410, 411, 412, 413, 414, 415, 416, 417, 160, 375, 376, 377, 378, 194, 320, 156, 157, 159, 158, 418, 419, 420, 421, 161, 163, 422, 162, 319, 423, 1156, 1157, 1158, 1159, 1160, 1161, 1162, 1163, 1164, 1165, 1166, 1167, 1168, 1169, 1170, 1171, 1172, 1173, 1174, 1175, 1176, 1177, 1178, 1179, 1180, 1181, 1182, 1183, 1184, 1185, 1186, 1187, 1188, 1189, 1190, 1191, 1192, 1193, 1194, 1195, 1196, 1197, 1198, 1199, 1200, 1201, 1202, 1203, 1204, 1205, 1206, 1207, 1208, 1209, 1210, 1211, 1212, 1213, 1214, 1215, 1216, 1217, 1218, 1219] (by decide +kernel) (by decide +kernel)
set_option maxRecDepth 20000 in
theorem gL_law_X11_share : GoodIn wsL_law (wsV RL 56 RX11 yX11_share wsX11_share) := goodIn_app (goodIn_of _ (by decide +kernel)) ggL_law_X11_share
set_option maxRecDepth 20000 in
theorem ggL_law_X10_truly : GoodIn wsL_law wsX10_truly := goodIn_r _ [427, 200, 24, 428, 294, 295, 2, 296, 201, 202, 203, 303, 304, 305, 348, 349, 350, 23, 351, 78, 79, 310, 74, 75, 77, 76, 352, 68, 69, 70, 353, 354, 355, 356, 357, 358, 359, 80, 360, 361, 362, 363, 81, 364, 265, 266, 267, 365, 366, 383, 384, 385, 386, 387, 388, 389, 390, 391, 392, 393, 394, 395, 396, 397, 398, 399, 400, 368, 369, 370, 1142, 1143, 1144, 1145, 1146, 1147, 1148, 1149, 1150, 1151, 1152, 1153, 1154, 1155, 1223, 1224, 1225, 1226, 1227, 1228, 1229, 1230, 1231] (by decide +kernel) (by decide +kernel)
set_option maxRecDepth 20000 in
theorem gL_law_X10_truly : GoodIn wsL_law (wsV RL 57 RX10 yX10_truly wsX10_truly) := goodIn_app (goodIn_of _ (by decide +kernel)) ggL_law_X10_truly
set_option maxRecDepth 20000 in
theorem ggL_law_X11_truly : GoodIn wsL_law wsX11_truly := goodIn_r _ [432, 222, 224, 194, 322, 323, 5, 324, 325, 230, 231, 232, 330, 331, 332, 333, 409, 410, 411, 412, 413, 414, 415, 416, 417, 160, 375, 376, 377, 378, 320, 156, 157, 159, 158, 418, 419, 420, 421, 161, 163, 422, 162, 319, 423, 1156, 1157, 1158, 1159, 1160, 1161, 1162, 1163, 1164, 1165, 1166, 1167, 1168, 1169, 1170, 1171, 1172, 1173, 1174, 1175, 1176, 1177, 1178, 1179, 1180, 1181, 1182, 1183, 1184, 1185, 1186, 1187, 1188, 1189, 1190, 1191, 1192, 1193, 1194, 1195, 1196, 1197, 1198, 1199, 1200, 1201, 1202, 1203, 1204, 1205, 1206, 1207, 1208, 1209, 1210, 1211, 1212, 1213, 1214, 1215, 1216, 1217, 1218, 1219] (by decide +kernel) (by decide +kernel)
set_option maxRecDepth 20000 in
theorem gL_law_X11_truly : GoodIn wsL_law (wsV RL 61 RX11 yX11_truly wsX11_truly) := goodIn_app (goodIn_of _ (by decide +kernel)) ggL_law_X11_truly
set_option maxRecDepth 20000 in
theorem ggL_law_X10_rings : GoodIn wsL_law wsX10_rings := goodIn_r _ [436, 200, 24, 437, 303, 304, 2, 305, 201, 202, 203, 348, 349, 350, 23, 351, 78, 79, 310, 74, 75, 77, 76, 352, 68, 69, 70, 353, 354, 355, 356, 357, 358, 359, 80, 360, 361, 362, 363, 81, 364, 265, 266, 267, 365, 366, 438, 1142, 1143, 1144, 1145, 1146, 1147, 1148, 1149, 1150, 1151, 1152, 1153, 1154, 1155, 1223, 1224, 1225, 1226, 1227, 1228, 1229, 1230, 1231] (by decide +kernel) (by decide +kernel)
set_option maxRecDepth 20000 in
theorem gL_law_X10_rings : GoodIn wsL_law (wsV RL 62 RX10 yX10_rings wsX10_rings) := goodIn_app (goodIn_of _ (by decide +kernel)) ggL_law_X10_rings
set_option maxRecDepth 20000 in
theorem ggL_law_X11_rings : GoodIn wsL_law wsX11_rings := goodIn_r _ [442, 222, 224, 160, 330, 331, 5, 332, 333, 230, 231, 232, 414, 415, 416, 417, 375, 376, 377, 378, 194, 320, 156, 157, 159, 158, 1156, 1157, 1158, 1159, 1160, 1161, 1162, 1163, 1164, 1165, 1166, 1167, 1168, 1169, 1170, 1171, 1172, 1173, 1174, 1175, 1176, 1177, 1178, 1179, 1180, 1181, 1182, 1183, 1184, 1185, 1186, 1187, 1188, 1189, 1190, 1191, 1192, 1193, 1194, 1195, 1196, 1197, 1198, 1199, 1200, 1201, 1202, 1203, 1204, 1205, 1206, 1207, 1208, 1209, 1210, 1211, 1212, 1213, 1214, 1215, 1216, 1217, 1218, 1219] (by decide +kernel) (by decide +kernel)
set_option maxRecDepth 20000 in
theorem gL_law_X11_rings : GoodIn wsL_law (wsV RL 65 RX11 yX11_rings wsX11_rings) := goodIn_app (goodIn_of _ (by decide +kernel)) ggL_law_X11_rings
theorem dL_law_208 : decode cL_law 208 = .ok (.aload_n 1, 1) := by decide +kernel
theorem dL_law_209 : decode cL_law 209 = .ok (.aload_n 0, 1) := by decide +kernel
theorem dL_law_210 : decode cL_law 210 = .ok (.iload_n 3, 1) := by decide +kernel
theorem dL_law_211 : decode cL_law 211 = .ok (.iconst 1, 1) := by decide +kernel
theorem dL_law_212 : decode cL_law 212 = .ok (.iadd, 1) := by decide +kernel
theorem dL_law_213 : decode cL_law 213 = .ok (.iaload, 1) := by decide +kernel
theorem dL_law_214 : decode cL_law 214 = .ok (.aload_n 0, 1) := by decide +kernel
theorem dL_law_215 : decode cL_law 215 = .ok (.iload_n 3, 1) := by decide +kernel
theorem dL_law_216 : decode cL_law 216 = .ok (.iconst 2, 1) := by decide +kernel
theorem dL_law_217 : decode cL_law 217 = .ok (.iadd, 1) := by decide +kernel
theorem dL_law_218 : decode cL_law 218 = .ok (.iaload, 1) := by decide +kernel
theorem dL_law_219 : decode cL_law 219 = .ok (.aload_n 0, 1) := by decide +kernel
theorem dL_law_220 : decode cL_law 220 = .ok (.iload_n 3, 1) := by decide +kernel
theorem dL_law_221 : decode cL_law 221 = .ok (.iconst 3, 1) := by decide +kernel
theorem dL_law_222 : decode cL_law 222 = .ok (.iadd, 1) := by decide +kernel
theorem dL_law_223 : decode cL_law 223 = .ok (.iaload, 1) := by decide +kernel
theorem dL_law_224 : decode cL_law 224 = .ok (.invokevirtual 21, 3) := by decide +kernel
theorem dL_law_227 : decode cL_law 227 = .ok (.aload_n 2, 1) := by decide +kernel
theorem dL_law_228 : decode cL_law 228 = .ok (.aload_n 0, 1) := by decide +kernel
theorem dL_law_229 : decode cL_law 229 = .ok (.iload_n 3, 1) := by decide +kernel
theorem dL_law_230 : decode cL_law 230 = .ok (.iconst 1, 1) := by decide +kernel
theorem dL_law_231 : decode cL_law 231 = .ok (.iadd, 1) := by decide +kernel
theorem dL_law_232 : decode cL_law 232 = .ok (.iaload, 1) := by decide +kernel
theorem dL_law_233 : decode cL_law 233 = .ok (.aload_n 0, 1) := by decide +kernel
theorem dL_law_234 : decode cL_law 234 = .ok (.iload_n 3, 1) := by decide +kernel
theorem dL_law_235 : decode cL_law 235 = .ok (.iconst 2, 1) := by decide +kernel
theorem dL_law_236 : decode cL_law 236 = .ok (.iadd, 1) := by decide +kernel
theorem dL_law_237 : decode cL_law 237 = .ok (.iaload, 1) := by decide +kernel
theorem dL_law_238 : decode cL_law 238 = .ok (.aload_n 0, 1) := by decide +kernel
theorem dL_law_239 : decode cL_law 239 = .ok (.iload_n 3, 1) := by decide +kernel
theorem dL_law_240 : decode cL_law 240 = .ok (.iconst 3, 1) := by decide +kernel
theorem dL_law_241 : decode cL_law 241 = .ok (.iadd, 1) := by decide +kernel
theorem dL_law_242 : decode cL_law 242 = .ok (.iaload, 1) := by decide +kernel
theorem dL_law_243 : decode cL_law 243 = .ok (.invokevirtual 25, 3) := by decide +kernel
theorem dL_law_246 : decode cL_law 246 = .ok (.if_icmp .eq 1406, 3) := by decide +kernel
theorem dL_law_251 : decode cL_law 251 = .ok (.aload_n 1, 1) := by decide +kernel
theorem dL_law_252 : decode cL_law 252 = .ok (.aload_n 0, 1) := by decide +kernel
theorem dL_law_253 : decode cL_law 253 = .ok (.iload_n 3, 1) := by decide +kernel
theorem dL_law_254 : decode cL_law 254 = .ok (.iconst 1, 1) := by decide +kernel
theorem dL_law_255 : decode cL_law 255 = .ok (.iadd, 1) := by decide +kernel
theorem dL_law_256 : decode cL_law 256 = .ok (.iaload, 1) := by decide +kernel
theorem dL_law_257 : decode cL_law 257 = .ok (.aload_n 0, 1) := by decide +kernel
theorem dL_law_258 : decode cL_law 258 = .ok (.iload_n 3, 1) := by decide +kernel
theorem dL_law_259 : decode cL_law 259 = .ok (.iconst 2, 1) := by decide +kernel
theorem dL_law_260 : decode cL_law 260 = .ok (.iadd, 1) := by decide +kernel
theorem dL_law_261 : decode cL_law 261 = .ok (.iaload, 1) := by decide +kernel
theorem dL_law_262 : decode cL_law 262 = .ok (.aload_n 0, 1) := by decide +kernel
theorem dL_law_263 : decode cL_law 263 = .ok (.iload_n 3, 1) := by decide +kernel
theorem dL_law_264 : decode cL_law 264 = .ok (.iconst 3, 1) := by decide +kernel
theorem dL_law_265 : decode cL_law 265 = .ok (.iadd, 1) := by decide +kernel
theorem dL_law_266 : decode cL_law 266 = .ok (.iaload, 1) := by decide +kernel
theorem dL_law_267 : decode cL_law 267 = .ok (.invokevirtual 26, 3) := by decide +kernel
theorem dL_law_270 : decode cL_law 270 = .ok (.aload_n 2, 1) := by decide +kernel
theorem dL_law_271 : decode cL_law 271 = .ok (.aload_n 0, 1) := by decide +kernel
theorem dL_law_272 : decode cL_law 272 = .ok (.iload_n 3, 1) := by decide +kernel
theorem dL_law_273 : decode cL_law 273 = .ok (.iconst 1, 1) := by decide +kernel
theorem dL_law_274 : decode cL_law 274 = .ok (.iadd, 1) := by decide +kernel
theorem dL_law_275 : decode cL_law 275 = .ok (.iaload, 1) := by decide +kernel
theorem dL_law_276 : decode cL_law 276 = .ok (.aload_n 0, 1) := by decide +kernel
theorem dL_law_277 : decode cL_law 277 = .ok (.iload_n 3, 1) := by decide +kernel
theorem dL_law_278 : decode cL_law 278 = .ok (.iconst 2, 1) := by decide +kernel
theorem dL_law_279 : decode cL_law 279 = .ok (.iadd, 1) := by decide +kernel
theorem dL_law_280 : decode cL_law 280 = .ok (.iaload, 1) := by decide +kernel
theorem dL_law_281 : decode cL_law 281 = .ok (.aload_n 0, 1) := by decide +kernel
theorem dL_law_282 : decode cL_law 282 = .ok (.iload_n 3, 1) := by decide +kernel
theorem dL_law_283 : decode cL_law 283 = .ok (.iconst 3, 1) := by decide +kernel
theorem dL_law_284 : decode cL_law 284 = .ok (.iadd, 1) := by decide +kernel
theorem dL_law_285 : decode cL_law 285 = .ok (.iaload, 1) := by decide +kernel
theorem dL_law_286 : decode cL_law 286 = .ok (.invokevirtual 29, 3) := by decide +kernel
theorem dL_law_289 : decode cL_law 289 = .ok (.if_icmp .eq 1363, 3) := by decide +kernel
theorem dL_law_294 : decode cL_law 294 = .ok (.aload_n 1, 1) := by decide +kernel
theorem dL_law_295 : decode cL_law 295 = .ok (.aload_n 0, 1) := by decide +kernel
theorem dL_law_296 : decode cL_law 296 = .ok (.iload_n 3, 1) := by decide +kernel
theorem dL_law_297 : decode cL_law 297 = .ok (.iconst 1, 1) := by decide +kernel
theorem dL_law_298 : decode cL_law 298 = .ok (.iadd, 1) := by decide +kernel
theorem dL_law_299 : decode cL_law 299 = .ok (.iaload, 1) := by decide +kernel
theorem dL_law_300 : decode cL_law 300 = .ok (.aload_n 0, 1) := by decide +kernel
theorem dL_law_301 : decode cL_law 301 = .ok (.iload_n 3, 1) := by decide +kernel
theorem dL_law_302 : decode cL_law 302 = .ok (.iconst 2, 1) := by decide +kernel
theorem dL_law_303 : decode cL_law 303 = .ok (.iadd, 1) := by decide +kernel
theorem dL_law_304 : decode cL_law 304 = .ok (.iaload, 1) := by decide +kernel
theorem dL_law_305 : decode cL_law 305 = .ok (.aload_n 0, 1) := by decide +kernel
theorem dL_law_306 : decode cL_law 306 = .ok (.iload_n 3, 1) := by decide +kernel
theorem dL_law_307 : decode cL_law 307 = .ok (.iconst 3, 1) := by decide +kernel
theorem dL_law_308 : decode cL_law 308 = .ok (.iadd, 1) := by decide +kernel
theorem dL_law_309 : decode cL_law 309 = .ok (.iaload, 1) := by decide +kernel
theorem dL_law_310 : decode cL_law 310 = .ok (.aload_n 0, 1) := by decide +kernel
theorem dL_law_311 : decode cL_law 311 = .ok (.iload_n 3, 1) := by decide +kernel
theorem dL_law_312 : decode cL_law 312 = .ok (.iconst 4, 1) := by decide +kernel
theorem dL_law_313 : decode cL_law 313 = .ok (.iadd, 1) := by decide +kernel
theorem dL_law_314 : decode cL_law 314 = .ok (.iaload, 1) := by decide +kernel
theorem dL_law_315 : decode cL_law 315 = .ok (.aload_n 0, 1) := by decide +kernel
theorem dL_law_316 : decode cL_law 316 = .ok (.iload_n 3, 1) := by decide +kernel
theorem dL_law_317 : decode cL_law 317 = .ok (.iconst 5, 1) := by decide +kernel
theorem dL_law_318 : decode cL_law 318 = .ok (.iadd, 1) := by decide +kernel
theorem dL_law_319 : decode cL_law 319 = .ok (.iaload, 1) := by decide +kernel
theorem dL_law_320 : decode cL_law 320 = .ok (.invokevirtual 30, 3) := by decide +kernel
theorem dL_law_323 : decode cL_law 323 = .ok (.aload_n 2, 1) := by decide +kernel
theorem dL_law_324 : decode cL_law 324 = .ok (.aload_n 0, 1) := by decide +kernel
theorem dL_law_325 : decode cL_law 325 = .ok (.iload_n 3, 1) := by decide +kernel
theorem dL_law_326 : decode cL_law 326 = .ok (.iconst 1, 1) := by decide +kernel
theorem dL_law_327 : decode cL_law 327 = .ok (.iadd, 1) := by decide +kernel
theorem dL_law_328 : decode cL_law 328 = .ok (.iaload, 1) := by decide +kernel
theorem dL_law_329 : decode cL_law 329 = .ok (.aload_n 0, 1) := by decide +kernel
theorem dL_law_330 : decode cL_law 330 = .ok (.iload_n 3, 1) := by decide +kernel
theorem dL_law_331 : decode cL_law 331 = .ok (.iconst 2, 1) := by decide +kernel
theorem dL_law_332 : decode cL_law 332 = .ok (.iadd, 1) := by decide +kernel
theorem dL_law_333 : decode cL_law 333 = .ok (.iaload, 1) := by decide +kernel
theorem dL_law_334 : decode cL_law 334 = .ok (.aload_n 0, 1) := by decide +kernel
theorem dL_law_335 : decode cL_law 335 = .ok (.iload_n 3, 1) := by decide +kernel
theorem dL_law_336 : decode cL_law 336 = .ok (.iconst 3, 1) := by decide +kernel
theorem dL_law_337 : decode cL_law 337 = .ok (.iadd, 1) := by decide +kernel
theorem dL_law_338 : decode cL_law 338 = .ok (.iaload, 1) := by decide +kernel
theorem dL_law_339 : decode cL_law 339 = .ok (.aload_n 0, 1) := by decide +kernel
theorem dL_law_340 : decode cL_law 340 = .ok (.iload_n 3, 1) := by decide +kernel
theorem dL_law_341 : decode cL_law 341 = .ok (.iconst 4, 1) := by decide +kernel
theorem dL_law_342 : decode cL_law 342 = .ok (.iadd, 1) := by decide +kernel
theorem dL_law_343 : decode cL_law 343 = .ok (.iaload, 1) := by decide +kernel
theorem dL_law_344 : decode cL_law 344 = .ok (.aload_n 0, 1) := by decide +kernel
theorem dL_law_345 : decode cL_law 345 = .ok (.iload_n 3, 1) := by decide +kernel
theorem dL_law_346 : decode cL_law 346 = .ok (.iconst 5, 1) := by decide +kernel
theorem dL_law_347 : decode cL_law 347 = .ok (.iadd, 1) := by decide +kernel
theorem dL_law_348 : decode cL_law 348 = .ok (.iaload, 1) := by decide +kernel
theorem dL_law_349 : decode cL_law 349 = .ok (.invokevirtual 34, 3) := by decide +kernel
theorem dL_law_352 : decode cL_law 352 = .ok (.if_icmp .eq 1300, 3) := by decide +kernel
theorem dL_law_357 : decode cL_law 357 = .ok (.aload_n 1, 1) := by decide +kernel
theorem dL_law_358 : decode cL_law 358 = .ok (.aload_n 0, 1) := by decide +kernel
theorem dL_law_359 : decode cL_law 359 = .ok (.iload_n 3, 1) := by decide +kernel
theorem dL_law_360 : decode cL_law 360 = .ok (.iconst 1, 1) := by decide +kernel
theorem dL_law_361 : decode cL_law 361 = .ok (.iadd, 1) := by decide +kernel
theorem dL_law_362 : decode cL_law 362 = .ok (.iaload, 1) := by decide +kernel
theorem dL_law_363 : decode cL_law 363 = .ok (.invokevirtual 35, 3) := by decide +kernel
theorem dL_law_366 : decode cL_law 366 = .ok (.aload_n 2, 1) := by decide +kernel
theorem dL_law_367 : decode cL_law 367 = .ok (.aload_n 0, 1) := by decide +kernel
theorem dL_law_368 : decode cL_law 368 = .ok (.iload_n 3, 1) := by decide +kernel
theorem dL_law_369 : decode cL_law 369 = .ok (.iconst 1, 1) := by decide +kernel
theorem dL_law_370 : decode cL_law 370 = .ok (.iadd, 1) := by decide +kernel
theorem dL_law_371 : decode cL_law 371 = .ok (.iaload, 1) := by decide +kernel
theorem dL_law_372 : decode cL_law 372 = .ok (.invokevirtual 39, 3) := by decide +kernel
theorem dL_law_375 : decode cL_law 375 = .ok (.if_icmp .eq 1277, 3) := by decide +kernel
theorem dL_law_380 : decode cL_law 380 = .ok (.aload_n 1, 1) := by decide +kernel
theorem dL_law_381 : decode cL_law 381 = .ok (.aload_n 0, 1) := by decide +kernel
theorem dL_law_382 : decode cL_law 382 = .ok (.iload_n 3, 1) := by decide +kernel
theorem dL_law_383 : decode cL_law 383 = .ok (.iconst 1, 1) := by decide +kernel
theorem dL_law_384 : decode cL_law 384 = .ok (.iadd, 1) := by decide +kernel
theorem dL_law_385 : decode cL_law 385 = .ok (.iaload, 1) := by decide +kernel
theorem dL_law_386 : decode cL_law 386 = .ok (.aload_n 0, 1) := by decide +kernel
theorem dL_law_387 : decode cL_law 387 = .ok (.iload_n 3, 1) := by decide +kernel
theorem dL_law_388 : decode cL_law 388 = .ok (.iconst 2, 1) := by decide +kernel
theorem dL_law_389 : decode cL_law 389 = .ok (.iadd, 1) := by decide +kernel
theorem dL_law_390 : decode cL_law 390 = .ok (.iaload, 1) := by decide +kernel
theorem dL_law_391 : decode cL_law 391 = .ok (.aload_n 0, 1) := by decide +kernel
theorem dL_law_392 : decode cL_law 392 = .ok (.iload_n 3, 1) := by decide +kernel
theorem dL_law_393 : decode cL_law 393 = .ok (.iconst 3, 1) := by decide +kernel
theorem dL_law_394 : decode cL_law 394 = .ok (.iadd, 1) := by decide +kernel
theorem dL_law_395 : decode cL_law 395 = .ok (.iaload, 1) := by decide +kernel
theorem dL_law_396 : decode cL_law 396 = .ok (.aload_n 0, 1) := by decide +kernel
theorem dL_law_397 : decode cL_law 397 = .ok (.iload_n 3, 1) := by decide +kernel
theorem dL_law_398 : decode cL_law 398 = .ok (.iconst 4, 1) := by decide +kernel
theorem dL_law_399 : decode cL_law 399 = .ok (.iadd, 1) := by decide +kernel
theorem dL_law_400 : decode cL_law 400 = .ok (.iaload, 1) := by decide +kernel
theorem dL_law_401 : decode cL_law 401 = .ok (.invokevirtual 40, 3) := by decide +kernel
theorem dL_law_404 : decode cL_law 404 = .ok (.aload_n 2, 1) := by decide +kernel
theorem dL_law_405 : decode cL_law 405 = .ok (.aload_n 0, 1) := by decide +kernel
theorem dL_law_406 : decode cL_law 406 = .ok (.iload_n 3, 1) := by decide +kernel
theorem dL_law_407 : decode cL_law 407 = .ok (.iconst 1, 1) := by decide +kernel
theorem dL_law_408 : decode cL_law 408 = .ok (.iadd, 1) := by decide +kernel
theorem dL_law_409 : decode cL_law 409 = .ok (.iaload, 1) := by decide +kernel
theorem dL_law_410 : decode cL_law 410 = .ok (.aload_n 0, 1) := by decide +kernel
theorem dL_law_411 : decode cL_law 411 = .ok (.iload_n 3, 1) := by decide +kernel
theorem dL_law_412 : decode cL_law 412 = .ok (.iconst 2, 1) := by decide +kernel
theorem dL_law_413 : decode cL_law 413 = .ok (.iadd, 1) := by decide +kernel
theorem dL_law_414 : decode cL_law 414 = .ok (.iaload, 1) := by decide +kernel
theorem dL_law_415 : decode cL_law 415 = .ok (.aload_n 0, 1) := by decide +kernel
theorem dL_law_416 : decode cL_law 416 = .ok (.iload_n 3, 1) := by decide +kernel
theorem dL_law_417 : decode cL_law 417 = .ok (.iconst 3, 1) := by decide +kernel
theorem dL_law_418 : decode cL_law 418 = .ok (.iadd, 1) := by decide +kernel
theorem dL_law_419 : decode cL_law 419 = .ok (.iaload, 1) := by decide +kernel
theorem dL_law_420 : decode cL_law 420 = .ok (.aload_n 0, 1) := by decide +kernel
theorem dL_law_421 : decode cL_law 421 = .ok (.iload_n 3, 1) := by decide +kernel
theorem dL_law_422 : decode cL_law 422 = .ok (.iconst 4, 1) := by decide +kernel
theorem dL_law_423 : decode cL_law 423 = .ok (.iadd, 1) := by decide +kernel
theorem dL_law_424 : decode cL_law 424 = .ok (.iaload, 1) := by decide +kernel
theorem dL_law_425 : decode cL_law 425 = .ok (.invokevirtual 44, 3) := by decide +kernel
theorem dL_law_428 : decode cL_law 428 = .ok (.if_icmp .eq 1224, 3) := by decide +kernel
theorem dL_law_433 : decode cL_law 433 = .ok (.aload_n 1, 1) := by decide +kernel
theorem dL_law_434 : decode cL_law 434 = .ok (.aload_n 0, 1) := by decide +kernel
theorem dL_law_435 : decode cL_law 435 = .ok (.iload_n 3, 1) := by decide +kernel
theorem dL_law_436 : decode cL_law 436 = .ok (.iconst 1, 1) := by decide +kernel
theorem dL_law_437 : decode cL_law 437 = .ok (.iadd, 1) := by decide +kernel
theorem dL_law_438 : decode cL_law 438 = .ok (.iaload, 1) := by decide +kernel
theorem dL_law_439 : decode cL_law 439 = .ok (.aload_n 0, 1) := by decide +kernel
theorem dL_law_440 : decode cL_law 440 = .ok (.iload_n 3, 1) := by decide +kernel
theorem dL_law_441 : decode cL_law 441 = .ok (.iconst 2, 1) := by decide +kernel
theorem dL_law_442 : decode cL_law 442 = .ok (.iadd, 1) := by decide +kernel
theorem dL_law_443 : decode cL_law 443 = .ok (.iaload, 1) := by decide +kernel
theorem dL_law_444 : decode cL_law 444 = .ok (.aload_n 0, 1) := by decide +kernel
theorem dL_law_445 : decode cL_law 445 = .ok (.iload_n 3, 1) := by decide +kernel
theorem dL_law_446 : decode cL_law 446 = .ok (.iconst 3, 1) := by decide +kernel
theorem dL_law_447 : decode cL_law 447 = .ok (.iadd, 1) := by decide +kernel
theorem dL_law_448 : decode cL_law 448 = .ok (.iaload, 1) := by decide +kernel
theorem dL_law_449 : decode cL_law 449 = .ok (.invokevirtual 45, 3) := by decide +kernel
theorem dL_law_452 : decode cL_law 452 = .ok (.aload_n 2, 1) := by decide +kernel
theorem dL_law_453 : decode cL_law 453 = .ok (.aload_n 0, 1) := by decide +kernel
theorem dL_law_454 : decode cL_law 454 = .ok (.iload_n 3, 1) := by decide +kernel
theorem dL_law_455 : decode cL_law 455 = .ok (.iconst 1, 1) := by decide +kernel
theorem dL_law_456 : decode cL_law 456 = .ok (.iadd, 1) := by decide +kernel
theorem dL_law_457 : decode cL_law 457 = .ok (.iaload, 1) := by decide +kernel
theorem dL_law_458 : decode cL_law 458 = .ok (.aload_n 0, 1) := by decide +kernel
theorem dL_law_459 : decode cL_law 459 = .ok (.iload_n 3, 1) := by decide +kernel
theorem dL_law_460 : decode cL_law 460 = .ok (.iconst 2, 1) := by decide +kernel
theorem dL_law_461 : decode cL_law 461 = .ok (.iadd, 1) := by decide +kernel
theorem dL_law_462 : decode cL_law 462 = .ok (.iaload, 1) := by decide +kernel
theorem dL_law_463 : decode cL_law 463 = .ok (.aload_n 0, 1) := by decide +kernel
theorem dL_law_464 : decode cL_law 464 = .ok (.iload_n 3, 1) := by decide +kernel
theorem dL_law_465 : decode cL_law 465 = .ok (.iconst 3, 1) := by decide +kernel
theorem dL_law_466 : decode cL_law 466 = .ok (.iadd, 1) := by decide +kernel
theorem dL_law_467 : decode cL_law 467 = .ok (.iaload, 1) := by decide +kernel
theorem dL_law_468 : decode cL_law 468 = .ok (.invokevirtual 48, 3) := by decide +kernel
theorem dL_law_471 : decode cL_law 471 = .ok (.if_icmp .eq 1181, 3) := by decide +kernel
theorem dL_law_476 : decode cL_law 476 = .ok (.aload_n 1, 1) := by decide +kernel
theorem dL_law_477 : decode cL_law 477 = .ok (.aload_n 0, 1) := by decide +kernel
theorem dL_law_478 : decode cL_law 478 = .ok (.iload_n 3, 1) := by decide +kernel
theorem dL_law_479 : decode cL_law 479 = .ok (.iconst 1, 1) := by decide +kernel
theorem dL_law_480 : decode cL_law 480 = .ok (.iadd, 1) := by decide +kernel
theorem dL_law_481 : decode cL_law 481 = .ok (.iaload, 1) := by decide +kernel
theorem dL_law_482 : decode cL_law 482 = .ok (.aload_n 0, 1) := by decide +kernel
theorem dL_law_483 : decode cL_law 483 = .ok (.iload_n 3, 1) := by decide +kernel
theorem dL_law_484 : decode cL_law 484 = .ok (.iconst 2, 1) := by decide +kernel
theorem dL_law_485 : decode cL_law 485 = .ok (.iadd, 1) := by decide +kernel
theorem dL_law_486 : decode cL_law 486 = .ok (.iaload, 1) := by decide +kernel
theorem dL_law_487 : decode cL_law 487 = .ok (.aload_n 0, 1) := by decide +kernel
theorem dL_law_488 : decode cL_law 488 = .ok (.iload_n 3, 1) := by decide +kernel
theorem dL_law_489 : decode cL_law 489 = .ok (.iconst 3, 1) := by decide +kernel
theorem dL_law_490 : decode cL_law 490 = .ok (.iadd, 1) := by decide +kernel
theorem dL_law_491 : decode cL_law 491 = .ok (.iaload, 1) := by decide +kernel
theorem dL_law_492 : decode cL_law 492 = .ok (.invokevirtual 49, 3) := by decide +kernel
theorem dL_law_495 : decode cL_law 495 = .ok (.aload_n 2, 1) := by decide +kernel
theorem dL_law_496 : decode cL_law 496 = .ok (.aload_n 0, 1) := by decide +kernel
theorem dL_law_497 : decode cL_law 497 = .ok (.iload_n 3, 1) := by decide +kernel
theorem dL_law_498 : decode cL_law 498 = .ok (.iconst 1, 1) := by decide +kernel
theorem dL_law_499 : decode cL_law 499 = .ok (.iadd, 1) := by decide +kernel
theorem dL_law_500 : decode cL_law 500 = .ok (.iaload, 1) := by decide +kernel
theorem dL_law_501 : decode cL_law 501 = .ok (.aload_n 0, 1) := by decide +kernel
theorem dL_law_502 : decode cL_law 502 = .ok (.iload_n 3, 1) := by decide +kernel
theorem dL_law_503 : decode cL_law 503 = .ok (.iconst 2, 1) := by decide +kernel
theorem dL_law_504 : decode cL_law 504 = .ok (.iadd, 1) := by decide +kernel
theorem dL_law_505 : decode cL_law 505 = .ok (.iaload, 1) := by decide +kernel
theorem dL_law_506 : decode cL_law 506 = .ok (.aload_n 0, 1) := by decide +kernel
theorem dL_law_507 : decode cL_law 507 = .ok (.iload_n 3, 1) := by decide +kernel
theorem dL_law_508 : decode cL_law 508 = .ok (.iconst 3, 1) := by decide +kernel
theorem dL_law_509 : decode cL_law 509 = .ok (.iadd, 1) := by decide +kernel
theorem dL_law_510 : decode cL_law 510 = .ok (.iaload, 1) := by decide +kernel
theorem dL_law_511 : decode cL_law 511 = .ok (.invokevirtual 52, 3) := by decide +kernel
theorem dL_law_514 : decode cL_law 514 = .ok (.if_icmp .eq 1138, 3) := by decide +kernel
theorem dL_law_519 : decode cL_law 519 = .ok (.aload_n 1, 1) := by decide +kernel
theorem dL_law_520 : decode cL_law 520 = .ok (.aload_n 0, 1) := by decide +kernel
theorem dL_law_521 : decode cL_law 521 = .ok (.iload_n 3, 1) := by decide +kernel
theorem dL_law_522 : decode cL_law 522 = .ok (.iconst 1, 1) := by decide +kernel
theorem dL_law_523 : decode cL_law 523 = .ok (.iadd, 1) := by decide +kernel
theorem dL_law_524 : decode cL_law 524 = .ok (.iaload, 1) := by decide +kernel
theorem dL_law_525 : decode cL_law 525 = .ok (.aload_n 0, 1) := by decide +kernel
theorem dL_law_526 : decode cL_law 526 = .ok (.iload_n 3, 1) := by decide +kernel
theorem dL_law_527 : decode cL_law 527 = .ok (.iconst 2, 1) := by decide +kernel
theorem dL_law_528 : decode cL_law 528 = .ok (.iadd, 1) := by decide +kernel
theorem dL_law_529 : decode cL_law 529 = .ok (.iaload, 1) := by decide +kernel
theorem dL_law_530 : decode cL_law 530 = .ok (.aload_n 0, 1) := by decide +kernel
theorem dL_law_531 : decode cL_law 531 = .ok (.iload_n 3, 1) := by decide +kernel
theorem dL_law_532 : decode cL_law 532 = .ok (.iconst 3, 1) := by decide +kernel
theorem dL_law_533 : decode cL_law 533 = .ok (.iadd, 1) := by decide +kernel
theorem dL_law_534 : decode cL_law 534 = .ok (.iaload, 1) := by decide +kernel
theorem dL_law_535 : decode cL_law 535 = .ok (.invokevirtual 53, 3) := by decide +kernel
theorem dL_law_538 : decode cL_law 538 = .ok (.aload_n 2, 1) := by decide +kernel
theorem dL_law_539 : decode cL_law 539 = .ok (.aload_n 0, 1) := by decide +kernel
theorem dL_law_540 : decode cL_law 540 = .ok (.iload_n 3, 1) := by decide +kernel
theorem dL_law_541 : decode cL_law 541 = .ok (.iconst 1, 1) := by decide +kernel
theorem dL_law_542 : decode cL_law 542 = .ok (.iadd, 1) := by decide +kernel
theorem dL_law_543 : decode cL_law 543 = .ok (.iaload, 1) := by decide +kernel
theorem dL_law_544 : decode cL_law 544 = .ok (.aload_n 0, 1) := by decide +kernel
theorem dL_law_545 : decode cL_law 545 = .ok (.iload_n 3, 1) := by decide +kernel
theorem dL_law_546 : decode cL_law 546 = .ok (.iconst 2, 1) := by decide +kernel
theorem dL_law_547 : decode cL_law 547 = .ok (.iadd, 1) := by decide +kernel
theorem dL_law_548 : decode cL_law 548 = .ok (.iaload, 1) := by decide +kernel
theorem dL_law_549 : decode cL_law 549 = .ok (.aload_n 0, 1) := by decide +kernel
theorem dL_law_550 : decode cL_law 550 = .ok (.iload_n 3, 1) := by decide +kernel
theorem dL_law_551 : decode cL_law 551 = .ok (.iconst 3, 1) := by decide +kernel
theorem dL_law_552 : decode cL_law 552 = .ok (.iadd, 1) := by decide +kernel
theorem dL_law_553 : decode cL_law 553 = .ok (.iaload, 1) := by decide +kernel
theorem dL_law_554 : decode cL_law 554 = .ok (.invokevirtual 56, 3) := by decide +kernel
theorem dL_law_557 : decode cL_law 557 = .ok (.if_icmp .eq 1095, 3) := by decide +kernel
theorem dL_law_562 : decode cL_law 562 = .ok (.aload_n 1, 1) := by decide +kernel
theorem dL_law_563 : decode cL_law 563 = .ok (.aload_n 0, 1) := by decide +kernel
theorem dL_law_564 : decode cL_law 564 = .ok (.iload_n 3, 1) := by decide +kernel
theorem dL_law_565 : decode cL_law 565 = .ok (.iconst 1, 1) := by decide +kernel
theorem dL_law_566 : decode cL_law 566 = .ok (.iadd, 1) := by decide +kernel
theorem dL_law_567 : decode cL_law 567 = .ok (.iaload, 1) := by decide +kernel
theorem dL_law_568 : decode cL_law 568 = .ok (.aload_n 0, 1) := by decide +kernel
theorem dL_law_569 : decode cL_law 569 = .ok (.iload_n 3, 1) := by decide +kernel
theorem dL_law_570 : decode cL_law 570 = .ok (.iconst 2, 1) := by decide +kernel
theorem dL_law_571 : decode cL_law 571 = .ok (.iadd, 1) := by decide +kernel
theorem dL_law_572 : decode cL_law 572 = .ok (.iaload, 1) := by decide +kernel
theorem dL_law_573 : decode cL_law 573 = .ok (.invokevirtual 57, 3) := by decide +kernel
theorem dL_law_576 : decode cL_law 576 = .ok (.aload_n 2, 1) := by decide +kernel
theorem dL_law_577 : decode cL_law 577 = .ok (.aload_n 0, 1) := by decide +kernel
theorem dL_law_578 : decode cL_law 578 = .ok (.iload_n 3, 1) := by decide +kernel
theorem dL_law_579 : decode cL_law 579 = .ok (.iconst 1, 1) := by decide +kernel
theorem dL_law_580 : decode cL_law 580 = .ok (.iadd, 1) := by decide +kernel
theorem dL_law_581 : decode cL_law 581 = .ok (.iaload, 1) := by decide +kernel
theorem dL_law_582 : decode cL_law 582 = .ok (.aload_n 0, 1) := by decide +kernel
theorem dL_law_583 : decode cL_law 583 = .ok (.iload_n 3, 1) := by decide +kernel
theorem dL_law_584 : decode cL_law 584 = .ok (.iconst 2, 1) := by decide +kernel
theorem dL_law_585 : decode cL_law 585 = .ok (.iadd, 1) := by decide +kernel
theorem dL_law_586 : decode cL_law 586 = .ok (.iaload, 1) := by decide +kernel
theorem dL_law_587 : decode cL_law 587 = .ok (.invokevirtual 61, 3) := by decide +kernel
theorem dL_law_590 : decode cL_law 590 = .ok (.if_icmp .eq 1062, 3) := by decide +kernel
theorem dL_law_595 : decode cL_law 595 = .ok (.aload_n 1, 1) := by decide +kernel
theorem dL_law_596 : decode cL_law 596 = .ok (.aload_n 0, 1) := by decide +kernel
theorem dL_law_597 : decode cL_law 597 = .ok (.iload_n 3, 1) := by decide +kernel
theorem dL_law_598 : decode cL_law 598 = .ok (.iconst 1, 1) := by decide +kernel
theorem dL_law_599 : decode cL_law 599 = .ok (.iadd, 1) := by decide +kernel
theorem dL_law_600 : decode cL_law 600 = .ok (.iaload, 1) := by decide +kernel
theorem dL_law_601 : decode cL_law 601 = .ok (.invokevirtual 62, 3) := by decide +kernel
theorem dL_law_604 : decode cL_law 604 = .ok (.aload_n 2, 1) := by decide +kernel
theorem dL_law_605 : decode cL_law 605 = .ok (.aload_n 0, 1) := by decide +kernel
theorem dL_law_606 : decode cL_law 606 = .ok (.iload_n 3, 1) := by decide +kernel
theorem dL_law_607 : decode cL_law 607 = .ok (.iconst 1, 1) := by decide +kernel
theorem dL_law_608 : decode cL_law 608 = .ok (.iadd, 1) := by decide +kernel
theorem dL_law_609 : decode cL_law 609 = .ok (.iaload, 1) := by decide +kernel
theorem dL_law_610 : decode cL_law 610 = .ok (.invokevirtual 65, 3) := by decide +kernel
theorem dL_law_613 : decode cL_law 613 = .ok (.if_icmp .eq 1039, 3) := by decide +kernel
set_option maxHeartbeats 4000000 in
set_option maxRecDepth 100000 in
theorem law_case_0 {p : Program} {l : Launch} {e : Env} {s : State} {m : MethodId} {below : List Frame} {meth : Method} {c : Code} {D : va_G} {cI cY cJ cQ : ClassId} {b : Nat} {xs : Nat → Int32} {ad rw md : Nat → Nat} {sd : Int32} {H : Heap} {locs : List Loc} {ls : Array Slot} (C0 : lawC p s m meth c b xs D cI cY cJ cQ) (hP : va_P D vwCl [((ad 0), .inr (10, [.ref (ad 1), .ref (ad 2), .ref (ad 3), .ref (ad 4), .ref (ad 5), .ref (ad 6), .ref (ad 7), .ref (ad 8), .ref (ad 9), .ref (ad 10), .ref (ad 11), .int 0, .int 0, .int 0])), ((ad 1), .inr (9, [.ref (ad 12), .ref (ad 13), .ref (ad 14)])), ((ad 12), .inl (cQ, 8, .inr (.inr (.inr (.inr (fun i => if i < 8 then some (rw i) else none)))))), ((rw 0), .inl (cI, 60, .inl (fun _ => 0))), ((rw 1), .inl (cI, 60, .inl (fun _ => 0))), ((rw 2), .inl (cI, 60, .inl (fun _ => 0))), ((rw 3), .inl (cI, 60, .inl (fun _ => 0))), ((rw 4), .inl (cI, 60, .inl (fun _ => 0))), ((rw 5), .inl (cI, 60, .inl (fun _ => 0))), ((rw 6), .inl (cI, 60, .inl (fun _ => 0))), ((rw 7), .inl (cI, 60, .inl (fun _ => 0))), ((ad 13), .inl (cI, 8, .inl (fun _ => 0))), ((ad 14), .inl (cI, 8, .inl (fun _ => (-1)))), ((md 64), .inr (11, [.int 0, .long (sd.toInt64), .int 0, .ref (md 3), .ref (md 4), .ref (md 5), .int 0, .ref (md 7), .ref (md 8), .ref (md 9), .ref (md 10), .ref (md 11), .ref (md 12), .ref (md 13), .ref (md 14), .int 0, .ref (md 16), .ref (md 17), .int 0, .ref (md 19), .ref (md 20), .ref (md 21), .ref (md 22), .ref (md 23), .int 0, .int 0, .ref (md 26), .ref (md 27), .ref (md 28), .ref (md 29), .int 0, .ref (md 31), .int 0, .ref (md 33), .ref (md 34), .int 0, .int 0, .int 0, .int 0, .int 0, .int 0, .int 0, .int 0, .int 0, .int 0, .ref (md 45), .ref (md 46), .ref (md 47), .ref (md 48), .ref (md 49), .ref (md 50), .ref (md 51), .int 0, .ref (md 53), .ref (md 54), .ref (md 55), .ref (md 56), .int 0, .ref (md 58), .ref (md 59), .ref (md 60), .int 0, .ref (md 62), .int 0])), ((md 3), .inl (cI, 8, .inl (fun _ => (-1)))), ((md 4), .inl (cI, 8, .inl (fun _ => 0))), ((md 5), .inl (cI, 480, .inl (fun _ => 0)))] H) (hD : va_D (fun q : Nat => s.heap.size ≤ q) [((ad 0), .inr (10, [.ref (ad 1), .ref (ad 2), .ref (ad 3), .ref (ad 4), .ref (ad 5), .ref (ad 6), .ref (ad 7), .ref (ad 8), .ref (ad 9), .ref (ad 10), .ref (ad 11), .int 0, .int 0, .int 0])), ((ad 1), .inr (9, [.ref (ad 12), .ref (ad 13), .ref (ad 14)])), ((ad 12), .inl (cQ, 8, .inr (.inr (.inr (.inr (fun i => if i < 8 then some (rw i) else none)))))), ((rw 0), .inl (cI, 60, .inl (fun _ => 0))), ((rw 1), .inl (cI, 60, .inl (fun _ => 0))), ((rw 2), .inl (cI, 60, .inl (fun _ => 0))), ((rw 3), .inl (cI, 60, .inl (fun _ => 0))), ((rw 4), .inl (cI, 60, .inl (fun _ => 0))), ((rw 5), .inl (cI, 60, .inl (fun _ => 0))), ((rw 6), .inl (cI, 60, .inl (fun _ => 0))), ((rw 7), .inl (cI, 60, .inl (fun _ => 0))), ((ad 13), .inl (cI, 8, .inl (fun _ => 0))), ((ad 14), .inl (cI, 8, .inl (fun _ => (-1)))), ((md 64), .inr (11, [.int 0, .long (sd.toInt64), .int 0, .ref (md 3), .ref (md 4), .ref (md 5), .int 0, .ref (md 7), .ref (md 8), .ref (md 9), .ref (md 10), .ref (md 11), .ref (md 12), .ref (md 13), .ref (md 14), .int 0, .ref (md 16), .ref (md 17), .int 0, .ref (md 19), .ref (md 20), .ref (md 21), .ref (md 22), .ref (md 23), .int 0, .int 0, .ref (md 26), .ref (md 27), .ref (md 28), .ref (md 29), .int 0, .ref (md 31), .int 0, .ref (md 33), .ref (md 34), .int 0, .int 0, .int 0, .int 0, .int 0, .int 0, .int 0, .int 0, .int 0, .int 0, .ref (md 45), .ref (md 46), .ref (md 47), .ref (md 48), .ref (md 49), .ref (md 50), .ref (md 51), .int 0, .ref (md 53), .ref (md 54), .ref (md 55), .ref (md 56), .int 0, .ref (md 58), .ref (md 59), .ref (md 60), .int 0, .ref (md 62), .int 0])), ((md 3), .inl (cI, 8, .inl (fun _ => (-1)))), ((md 4), .inl (cI, 8, .inl (fun _ => 0))), ((md 5), .inl (cI, 480, .inl (fun _ => 0)))]) (hS : va_S (fun q : Nat => s.heap.size ≤ q) s.heap H locs) (hl : lv_has ls 4 [(0, .ref b), (1, .ref (ad 0)), (2, .ref (md 64)), (3, .int 1)]) : W p l e room_1 s m #[Value.ref b] below meth c H locs 107 4890 (lw_Z below #[Value.ref b] s) (F0 m 208 ls []) := by
  have C0k := C0
  obtain ⟨C1, hK, hN⟩ := C0
  obtain ⟨hx, hb, hr, hml, hown, hts0, hX, hbl, hlocks, hgv⟩ := C1
  have hA : ∀ q : Nat, s.heap.size ≤ q → (fun q : Nat => s.heap.size ≤ q) q := fun _ h => h
  have hbA : ¬ (fun q : Nat => s.heap.size ≤ q) b := Nat.not_le.mpr hbl
  have hts : ∀ w ∈ wsL_law, w.before #[Value.ref b] s = true := fun w h => hts0 w (wsL_law_in w h)
  replace hown : s.vm.findClass RL = some m.cls := hown
  replace hb : c.code = cL_law := hb
  have hLI : (Int32.ofNat 7).toInt = 7 := by decide
  refine lv_aload_n hx hb dL_law_208 rfl (lv_at hl 1 rfl) ?_
  refine lv_aload_n hx hb dL_law_209 rfl (lv_at hl 0 rfl) ?_
  refine lv_iload_n hx hb dL_law_210 rfl (lv_at hl 3 rfl) ?_
  refine lv_iconst (v := 1) hx hb dL_law_211 (by decide) ?_
  refine lv_iadd hx hb dL_law_212 ?_
  refine lv_topi (fun v1 ev1 => ?_)
  replace ev1 : v1 = 2 := ev1.trans (by decide)
  subst ev1
  refine va_sld hx hb hX hbl hbA hS (i_in (by decide) (by decide)) dL_law_213 ?_
  refine lv_aload_n hx hb dL_law_214 rfl (lv_at hl 0 rfl) ?_
  refine lv_iload_n hx hb dL_law_215 rfl (lv_at hl 3 rfl) ?_
  refine lv_iconst (v := 2) hx hb dL_law_216 (by decide) ?_
  refine lv_iadd hx hb dL_law_217 ?_
  refine lv_topi (fun v2 ev2 => ?_)
  replace ev2 : v2 = 3 := ev2.trans (by decide)
  subst ev2
  refine va_sld hx hb hX hbl hbA hS (i_in (by decide) (by decide)) dL_law_218 ?_
  refine lv_aload_n hx hb dL_law_219 rfl (lv_at hl 0 rfl) ?_
  refine lv_iload_n hx hb dL_law_220 rfl (lv_at hl 3 rfl) ?_
  refine lv_iconst (v := 3) hx hb dL_law_221 (by decide) ?_
  refine lv_iadd hx hb dL_law_222 ?_
  refine lv_topi (fun v3 ev3 => ?_)
  replace ev3 : v3 = 4 := ev3.trans (by decide)
  subst ev3
  refine va_sld hx hb hX hbl hbA hS (i_in (by decide) (by decide)) dL_law_223 ?_
  refine st_i (wr := [((md 64), .inr (11, [.int 0, .long (sd.toInt64), .int 0, .ref (md 3), .ref (md 4), .ref (md 5), .int 0, .ref (md 7), .ref (md 8), .ref (md 9), .ref (md 10), .ref (md 11), .ref (md 12), .ref (md 13), .ref (md 14), .int 0, .ref (md 16), .ref (md 17), .int 0, .ref (md 19), .ref (md 20), .ref (md 21), .ref (md 22), .ref (md 23), .int 0, .int 0, .ref (md 26), .ref (md 27), .ref (md 28), .ref (md 29), .int 0, .ref (md 31), .int 0, .ref (md 33), .ref (md 34), .int 0, .int 0, .int 0, .int 0, .int 0, .int 0, .int 0, .int 0, .int 0, .int 0, .ref (md 45), .ref (md 46), .ref (md 47), .ref (md 48), .ref (md 49), .ref (md 50), .ref (md 51), .int 0, .ref (md 53), .ref (md 54), .ref (md 55), .ref (md 56), .int 0, .ref (md 58), .ref (md 59), .ref (md 60), .int 0, .ref (md 62), .int 0])), ((md 3), .inl (cI, 8, .inl (fun _ => (-1)))), ((md 4), .inl (cI, 8, .inl (fun _ => 0))), ((md 5), .inl (cI, 480, .inl (fun _ => 0)))]) (va_runV (C := RX10) (As := [.int (xs ((2 : Int32).toNatClampNeg)), .int (xs ((3 : Int32).toNatClampNeg)), .int (xs ((4 : Int32).toNatClampNeg))]) (rest := []) ⟨hx, hb, hml, hown, hts⟩ (ct_X10_sheet l D cI cY cJ cQ _ ad (xs ((2 : Int32).toNatClampNeg)) (xs ((3 : Int32).toNatClampNeg)) (xs ((4 : Int32).toNatClampNeg)) rw) (cwV 3 hts gL_law_X10_sheet rfl rfl rfl (by decide +kernel) ⟨Nat.le_of_ble_eq_true rfl, Nat.le_of_ble_eq_true rfl⟩) (cPreV (hP.sub [0, 1, 2, 3, 4, 5, 6, 7, 8, 9, 10, 11, 12] rfl) hK (hD.sub [0, 1, 2, 3, 4, 5, 6, 7, 8, 9, 10, 11, 12] (by decide) rfl) hN (ci := 10) (q0 := 0) rfl rfl) rfl rfl hl.1 rfl (lv_room (Nat.le_of_ble_eq_true rfl)) dL_law_224 ⟨Nat.le_of_ble_eq_true rfl, Nat.le_of_ble_eq_true rfl⟩) hP hD hS hA [0, 1, 2, 3, 4, 5, 6, 7, 8, 9, 10, 11, 12] [13, 14, 15, 16] rfl rfl (by decide) (by decide) (fun r6 u4 H locs hw5 hP hD hS => ?_)
  replace hP : va_P D vwCl [((md 64), .inr (11, [.int 0, .long (sd.toInt64), .int 0, .ref (md 3), .ref (md 4), .ref (md 5), .int 0, .ref (md 7), .ref (md 8), .ref (md 9), .ref (md 10), .ref (md 11), .ref (md 12), .ref (md 13), .ref (md 14), .int 0, .ref (md 16), .ref (md 17), .int 0, .ref (md 19), .ref (md 20), .ref (md 21), .ref (md 22), .ref (md 23), .int 0, .int 0, .ref (md 26), .ref (md 27), .ref (md 28), .ref (md 29), .int 0, .ref (md 31), .int 0, .ref (md 33), .ref (md 34), .int 0, .int 0, .int 0, .int 0, .int 0, .int 0, .int 0, .int 0, .int 0, .int 0, .ref (md 45), .ref (md 46), .ref (md 47), .ref (md 48), .ref (md 49), .ref (md 50), .ref (md 51), .int 0, .ref (md 53), .ref (md 54), .ref (md 55), .ref (md 56), .int 0, .ref (md 58), .ref (md 59), .ref (md 60), .int 0, .ref (md 62), .int 0])), ((md 3), .inl (cI, 8, .inl (fun _ => (-1)))), ((md 4), .inl (cI, 8, .inl (fun _ => 0))), ((md 5), .inl (cI, 480, .inl (fun _ => 0)))] H := hP
  replace hD : va_D (fun q : Nat => s.heap.size ≤ q) [((md 64), .inr (11, [.int 0, .long (sd.toInt64), .int 0, .ref (md 3), .ref (md 4), .ref (md 5), .int 0, .ref (md 7), .ref (md 8), .ref (md 9), .ref (md 10), .ref (md 11), .ref (md 12), .ref (md 13), .ref (md 14), .int 0, .ref (md 16), .ref (md 17), .int 0, .ref (md 19), .ref (md 20), .ref (md 21), .ref (md 22), .ref (md 23), .int 0, .int 0, .ref (md 26), .ref (md 27), .ref (md 28), .ref (md 29), .int 0, .ref (md 31), .int 0, .ref (md 33), .ref (md 34), .int 0, .int 0, .int 0, .int 0, .int 0, .int 0, .int 0, .int 0, .int 0, .int 0, .ref (md 45), .ref (md 46), .ref (md 47), .ref (md 48), .ref (md 49), .ref (md 50), .ref (md 51), .int 0, .ref (md 53), .ref (md 54), .ref (md 55), .ref (md 56), .int 0, .ref (md 58), .ref (md 59), .ref (md 60), .int 0, .ref (md 62), .int 0])), ((md 3), .inl (cI, 8, .inl (fun _ => (-1)))), ((md 4), .inl (cI, 8, .inl (fun _ => 0))), ((md 5), .inl (cI, 480, .inl (fun _ => 0)))] := hD
  refine lv_aload_n hx hb dL_law_227 rfl (lv_at hl 2 rfl) ?_
  refine lv_aload_n hx hb dL_law_228 rfl (lv_at hl 0 rfl) ?_
  refine lv_iload_n hx hb dL_law_229 rfl (lv_at hl 3 rfl) ?_
  refine lv_iconst (v := 1) hx hb dL_law_230 (by decide) ?_
  refine lv_iadd hx hb dL_law_231 ?_
  refine lv_topi (fun v7 ev7 => ?_)
  replace ev7 : v7 = 2 := ev7.trans (by decide)
  subst ev7
  refine va_sld hx hb hX hbl hbA hS (i_in (by decide) (by decide)) dL_law_232 ?_
  refine lv_aload_n hx hb dL_law_233 rfl (lv_at hl 0 rfl) ?_
  refine lv_iload_n hx hb dL_law_234 rfl (lv_at hl 3 rfl) ?_
  refine lv_iconst (v := 2) hx hb dL_law_235 (by decide) ?_
  refine lv_iadd hx hb dL_law_236 ?_
  refine lv_topi (fun v8 ev8 => ?_)
  replace ev8 : v8 = 3 := ev8.trans (by decide)
  subst ev8
  refine va_sld hx hb hX hbl hbA hS (i_in (by decide) (by decide)) dL_law_237 ?_
  refine lv_aload_n hx hb dL_law_238 rfl (lv_at hl 0 rfl) ?_
  refine lv_iload_n hx hb dL_law_239 rfl (lv_at hl 3 rfl) ?_
  refine lv_iconst (v := 3) hx hb dL_law_240 (by decide) ?_
  refine lv_iadd hx hb dL_law_241 ?_
  refine lv_topi (fun v9 ev9 => ?_)
  replace ev9 : v9 = 4 := ev9.trans (by decide)
  subst ev9
  refine va_sld hx hb hX hbl hbA hS (i_in (by decide) (by decide)) dL_law_242 ?_
  refine st_i (wr := []) (va_runV (C := RX11) (As := [.int (xs ((2 : Int32).toNatClampNeg)), .int (xs ((3 : Int32).toNatClampNeg)), .int (xs ((4 : Int32).toNatClampNeg))]) (rest := [.int r6]) ⟨hx, hb, hml, hown, hts⟩ (ct_X11_sheet l D cI cY cJ cQ _ md sd (xs ((2 : Int32).toNatClampNeg)) (xs ((3 : Int32).toNatClampNeg)) (xs ((4 : Int32).toNatClampNeg))) (cwV 3 hts gL_law_X11_sheet rfl rfl rfl (by decide +kernel) ⟨Nat.le_of_ble_eq_true rfl, Nat.le_of_ble_eq_true rfl⟩) (cPreV (hP.sub [0, 1, 2, 3] rfl) hK (hD.sub [0, 1, 2, 3] (by decide) rfl) hN (ci := 11) (q0 := 0) rfl rfl) rfl rfl hl.1 rfl (lv_room (Nat.le_of_ble_eq_true rfl)) dL_law_243 ⟨Nat.le_of_ble_eq_true rfl, Nat.le_of_ble_eq_true rfl⟩) hP hD hS hA [0, 1, 2, 3] [] rfl rfl (by decide) (by decide) (fun r12 u10 H locs hw11 hP hD hS => ?_)
  replace hP : va_P D vwCl [] H := hP
  replace hD : va_D (fun q : Nat => s.heap.size ≤ q) [] := hD
  refine lv_icmp_eq (tgt := 1652) hx hb dL_law_246 (by decide) (fun _ => ?_) (fun c13 => by exfalso; exact c13 (hw5.trans hw11.symm))
  exact law_tail C0k hS (lv_sub hl [0, 3] rfl)

set_option maxHeartbeats 4000000 in
set_option maxRecDepth 100000 in
theorem law_case_1 {p : Program} {l : Launch} {e : Env} {s : State} {m : MethodId} {below : List Frame} {meth : Method} {c : Code} {D : va_G} {cI cY cJ cQ : ClassId} {b : Nat} {xs : Nat → Int32} {ad rw md : Nat → Nat} {sd : Int32} {H : Heap} {locs : List Loc} {ls : Array Slot} (C0 : lawC p s m meth c b xs D cI cY cJ cQ) (hP : va_P D vwCl [((ad 0), .inr (10, [.ref (ad 1), .ref (ad 2), .ref (ad 3), .ref (ad 4), .ref (ad 5), .ref (ad 6), .ref (ad 7), .ref (ad 8), .ref (ad 9), .ref (ad 10), .ref (ad 11), .int 0, .int 0, .int 0])), ((ad 1), .inr (9, [.ref (ad 12), .ref (ad 13), .ref (ad 14)])), ((ad 14), .inl (cI, 8, .inl (fun _ => (-1)))), ((md 64), .inr (11, [.int 0, .long (sd.toInt64), .int 0, .ref (md 3), .ref (md 4), .ref (md 5), .int 0, .ref (md 7), .ref (md 8), .ref (md 9), .ref (md 10), .ref (md 11), .ref (md 12), .ref (md 13), .ref (md 14), .int 0, .ref (md 16), .ref (md 17), .int 0, .ref (md 19), .ref (md 20), .ref (md 21), .ref (md 22), .ref (md 23), .int 0, .int 0, .ref (md 26), .ref (md 27), .ref (md 28), .ref (md 29), .int 0, .ref (md 31), .int 0, .ref (md 33), .ref (md 34), .int 0, .int 0, .int 0, .int 0, .int 0, .int 0, .int 0, .int 0, .int 0, .int 0, .ref (md 45), .ref (md 46), .ref (md 47), .ref (md 48), .ref (md 49), .ref (md 50), .ref (md 51), .int 0, .ref (md 53), .ref (md 54), .ref (md 55), .ref (md 56), .int 0, .ref (md 58), .ref (md 59), .ref (md 60), .int 0, .ref (md 62), .int 0])), ((md 3), .inl (cI, 8, .inl (fun _ => (-1))))] H) (hD : va_D (fun q : Nat => s.heap.size ≤ q) [((ad 0), .inr (10, [.ref (ad 1), .ref (ad 2), .ref (ad 3), .ref (ad 4), .ref (ad 5), .ref (ad 6), .ref (ad 7), .ref (ad 8), .ref (ad 9), .ref (ad 10), .ref (ad 11), .int 0, .int 0, .int 0])), ((ad 1), .inr (9, [.ref (ad 12), .ref (ad 13), .ref (ad 14)])), ((ad 14), .inl (cI, 8, .inl (fun _ => (-1)))), ((md 64), .inr (11, [.int 0, .long (sd.toInt64), .int 0, .ref (md 3), .ref (md 4), .ref (md 5), .int 0, .ref (md 7), .ref (md 8), .ref (md 9), .ref (md 10), .ref (md 11), .ref (md 12), .ref (md 13), .ref (md 14), .int 0, .ref (md 16), .ref (md 17), .int 0, .ref (md 19), .ref (md 20), .ref (md 21), .ref (md 22), .ref (md 23), .int 0, .int 0, .ref (md 26), .ref (md 27), .ref (md 28), .ref (md 29), .int 0, .ref (md 31), .int 0, .ref (md 33), .ref (md 34), .int 0, .int 0, .int 0, .int 0, .int 0, .int 0, .int 0, .int 0, .int 0, .int 0, .ref (md 45), .ref (md 46), .ref (md 47), .ref (md 48), .ref (md 49), .ref (md 50), .ref (md 51), .int 0, .ref (md 53), .ref (md 54), .ref (md 55), .ref (md 56), .int 0, .ref (md 58), .ref (md 59), .ref (md 60), .int 0, .ref (md 62), .int 0])), ((md 3), .inl (cI, 8, .inl (fun _ => (-1))))]) (hS : va_S (fun q : Nat => s.heap.size ≤ q) s.heap H locs) (hl : lv_has ls 4 [(0, .ref b), (1, .ref (ad 0)), (2, .ref (md 64)), (3, .int 1)]) : W p l e room_1 s m #[Value.ref b] below meth c H locs 107 4890 (lw_Z below #[Value.ref b] s) (F0 m 251 ls []) := by
  have C0k := C0
  obtain ⟨C1, hK, hN⟩ := C0
  obtain ⟨hx, hb, hr, hml, hown, hts0, hX, hbl, hlocks, hgv⟩ := C1
  have hA : ∀ q : Nat, s.heap.size ≤ q → (fun q : Nat => s.heap.size ≤ q) q := fun _ h => h
  have hbA : ¬ (fun q : Nat => s.heap.size ≤ q) b := Nat.not_le.mpr hbl
  have hts : ∀ w ∈ wsL_law, w.before #[Value.ref b] s = true := fun w h => hts0 w (wsL_law_in w h)
  replace hown : s.vm.findClass RL = some m.cls := hown
  replace hb : c.code = cL_law := hb
  have hLI : (Int32.ofNat 7).toInt = 7 := by decide
  refine lv_aload_n hx hb dL_law_251 rfl (lv_at hl 1 rfl) ?_
  refine lv_aload_n hx hb dL_law_252 rfl (lv_at hl 0 rfl) ?_
  refine lv_iload_n hx hb dL_law_253 rfl (lv_at hl 3 rfl) ?_
  refine lv_iconst (v := 1) hx hb dL_law_254 (by decide) ?_
  refine lv_iadd hx hb dL_law_255 ?_
  refine lv_topi (fun v1 ev1 => ?_)
  replace ev1 : v1 = 2 := ev1.trans (by decide)
  subst ev1
  refine va_sld hx hb hX hbl hbA hS (i_in (by decide) (by decide)) dL_law_256 ?_
  refine lv_aload_n hx hb dL_law_257 rfl (lv_at hl 0 rfl) ?_
  refine lv_iload_n hx hb dL_law_258 rfl (lv_at hl 3 rfl) ?_
  refine lv_iconst (v := 2) hx hb dL_law_259 (by decide) ?_
  refine lv_iadd hx hb dL_law_260 ?_
  refine lv_topi (fun v2 ev2 => ?_)
  replace ev2 : v2 = 3 := ev2.trans (by decide)
  subst ev2
  refine va_sld hx hb hX hbl hbA hS (i_in (by decide) (by decide)) dL_law_261 ?_
  refine lv_aload_n hx hb dL_law_262 rfl (lv_at hl 0 rfl) ?_
  refine lv_iload_n hx hb dL_law_263 rfl (lv_at hl 3 rfl) ?_
  refine lv_iconst (v := 3) hx hb dL_law_264 (by decide) ?_
  refine lv_iadd hx hb dL_law_265 ?_
  refine lv_topi (fun v3 ev3 => ?_)
  replace ev3 : v3 = 4 := ev3.trans (by decide)
  subst ev3
  refine va_sld hx hb hX hbl hbA hS (i_in (by decide) (by decide)) dL_law_266 ?_
  refine st_i (wr := [((md 64), .inr (11, [.int 0, .long (sd.toInt64), .int 0, .ref (md 3), .ref (md 4), .ref (md 5), .int 0, .ref (md 7), .ref (md 8), .ref (md 9), .ref (md 10), .ref (md 11), .ref (md 12), .ref (md 13), .ref (md 14), .int 0, .ref (md 16), .ref (md 17), .int 0, .ref (md 19), .ref (md 20), .ref (md 21), .ref (md 22), .ref (md 23), .int 0, .int 0, .ref (md 26), .ref (md 27), .ref (md 28), .ref (md 29), .int 0, .ref (md 31), .int 0, .ref (md 33), .ref (md 34), .int 0, .int 0, .int 0, .int 0, .int 0, .int 0, .int 0, .int 0, .int 0, .int 0, .ref (md 45), .ref (md 46), .ref (md 47), .ref (md 48), .ref (md 49), .ref (md 50), .ref (md 51), .int 0, .ref (md 53), .ref (md 54), .ref (md 55), .ref (md 56), .int 0, .ref (md 58), .ref (md 59), .ref (md 60), .int 0, .ref (md 62), .int 0])), ((md 3), .inl (cI, 8, .inl (fun _ => (-1))))]) (va_runV (C := RX10) (As := [.int (xs ((2 : Int32).toNatClampNeg)), .int (xs ((3 : Int32).toNatClampNeg)), .int (xs ((4 : Int32).toNatClampNeg))]) (rest := []) ⟨hx, hb, hml, hown, hts⟩ (ct_X10_set l D cI cY cJ cQ _ ad (xs ((2 : Int32).toNatClampNeg)) (xs ((3 : Int32).toNatClampNeg)) (xs ((4 : Int32).toNatClampNeg))) (cwV 3 hts gL_law_X10_set rfl rfl rfl (by decide +kernel) ⟨Nat.le_of_ble_eq_true rfl, Nat.le_of_ble_eq_true rfl⟩) (cPreV (hP.sub [0, 1, 2] rfl) hK (hD.sub [0, 1, 2] (by decide) rfl) hN (ci := 10) (q0 := 0) rfl rfl) rfl rfl hl.1 rfl (lv_room (Nat.le_of_ble_eq_true rfl)) dL_law_267 ⟨Nat.le_of_ble_eq_true rfl, Nat.le_of_ble_eq_true rfl⟩) hP hD hS hA [0, 1, 2] [3, 4] rfl rfl (by decide) (by decide) (fun r6 u4 H locs hw5 hP hD hS => ?_)
  replace hP : va_P D vwCl [((md 64), .inr (11, [.int 0, .long (sd.toInt64), .int 0, .ref (md 3), .ref (md 4), .ref (md 5), .int 0, .ref (md 7), .ref (md 8), .ref (md 9), .ref (md 10), .ref (md 11), .ref (md 12), .ref (md 13), .ref (md 14), .int 0, .ref (md 16), .ref (md 17), .int 0, .ref (md 19), .ref (md 20), .ref (md 21), .ref (md 22), .ref (md 23), .int 0, .int 0, .ref (md 26), .ref (md 27), .ref (md 28), .ref (md 29), .int 0, .ref (md 31), .int 0, .ref (md 33), .ref (md 34), .int 0, .int 0, .int 0, .int 0, .int 0, .int 0, .int 0, .int 0, .int 0, .int 0, .ref (md 45), .ref (md 46), .ref (md 47), .ref (md 48), .ref (md 49), .ref (md 50), .ref (md 51), .int 0, .ref (md 53), .ref (md 54), .ref (md 55), .ref (md 56), .int 0, .ref (md 58), .ref (md 59), .ref (md 60), .int 0, .ref (md 62), .int 0])), ((md 3), .inl (cI, 8, .inl (fun _ => (-1))))] H := hP
  replace hD : va_D (fun q : Nat => s.heap.size ≤ q) [((md 64), .inr (11, [.int 0, .long (sd.toInt64), .int 0, .ref (md 3), .ref (md 4), .ref (md 5), .int 0, .ref (md 7), .ref (md 8), .ref (md 9), .ref (md 10), .ref (md 11), .ref (md 12), .ref (md 13), .ref (md 14), .int 0, .ref (md 16), .ref (md 17), .int 0, .ref (md 19), .ref (md 20), .ref (md 21), .ref (md 22), .ref (md 23), .int 0, .int 0, .ref (md 26), .ref (md 27), .ref (md 28), .ref (md 29), .int 0, .ref (md 31), .int 0, .ref (md 33), .ref (md 34), .int 0, .int 0, .int 0, .int 0, .int 0, .int 0, .int 0, .int 0, .int 0, .int 0, .ref (md 45), .ref (md 46), .ref (md 47), .ref (md 48), .ref (md 49), .ref (md 50), .ref (md 51), .int 0, .ref (md 53), .ref (md 54), .ref (md 55), .ref (md 56), .int 0, .ref (md 58), .ref (md 59), .ref (md 60), .int 0, .ref (md 62), .int 0])), ((md 3), .inl (cI, 8, .inl (fun _ => (-1))))] := hD
  refine lv_aload_n hx hb dL_law_270 rfl (lv_at hl 2 rfl) ?_
  refine lv_aload_n hx hb dL_law_271 rfl (lv_at hl 0 rfl) ?_
  refine lv_iload_n hx hb dL_law_272 rfl (lv_at hl 3 rfl) ?_
  refine lv_iconst (v := 1) hx hb dL_law_273 (by decide) ?_
  refine lv_iadd hx hb dL_law_274 ?_
  refine lv_topi (fun v7 ev7 => ?_)
  replace ev7 : v7 = 2 := ev7.trans (by decide)
  subst ev7
  refine va_sld hx hb hX hbl hbA hS (i_in (by decide) (by decide)) dL_law_275 ?_
  refine lv_aload_n hx hb dL_law_276 rfl (lv_at hl 0 rfl) ?_
  refine lv_iload_n hx hb dL_law_277 rfl (lv_at hl 3 rfl) ?_
  refine lv_iconst (v := 2) hx hb dL_law_278 (by decide) ?_
  refine lv_iadd hx hb dL_law_279 ?_
  refine lv_topi (fun v8 ev8 => ?_)
  replace ev8 : v8 = 3 := ev8.trans (by decide)
  subst ev8
  refine va_sld hx hb hX hbl hbA hS (i_in (by decide) (by decide)) dL_law_280 ?_
  refine lv_aload_n hx hb dL_law_281 rfl (lv_at hl 0 rfl) ?_
  refine lv_iload_n hx hb dL_law_282 rfl (lv_at hl 3 rfl) ?_
  refine lv_iconst (v := 3) hx hb dL_law_283 (by decide) ?_
  refine lv_iadd hx hb dL_law_284 ?_
  refine lv_topi (fun v9 ev9 => ?_)
  replace ev9 : v9 = 4 := ev9.trans (by decide)
  subst ev9
  refine va_sld hx hb hX hbl hbA hS (i_in (by decide) (by decide)) dL_law_285 ?_
  refine st_i (wr := []) (va_runV (C := RX11) (As := [.int (xs ((2 : Int32).toNatClampNeg)), .int (xs ((3 : Int32).toNatClampNeg)), .int (xs ((4 : Int32).toNatClampNeg))]) (rest := [.int r6]) ⟨hx, hb, hml, hown, hts⟩ (ct_X11_set l D cI cY cJ cQ _ md sd (xs ((2 : Int32).toNatClampNeg)) (xs ((3 : Int32).toNatClampNeg)) (xs ((4 : Int32).toNatClampNeg))) (cwV 3 hts gL_law_X11_set rfl rfl rfl (by decide +kernel) ⟨Nat.le_of_ble_eq_true rfl, Nat.le_of_ble_eq_true rfl⟩) (cPreV (hP.sub [0, 1] rfl) hK (hD.sub [0, 1] (by decide) rfl) hN (ci := 11) (q0 := 0) rfl rfl) rfl rfl hl.1 rfl (lv_room (Nat.le_of_ble_eq_true rfl)) dL_law_286 ⟨Nat.le_of_ble_eq_true rfl, Nat.le_of_ble_eq_true rfl⟩) hP hD hS hA [0, 1] [] rfl rfl (by decide) (by decide) (fun r12 u10 H locs hw11 hP hD hS => ?_)
  replace hP : va_P D vwCl [] H := hP
  replace hD : va_D (fun q : Nat => s.heap.size ≤ q) [] := hD
  refine lv_icmp_eq (tgt := 1652) hx hb dL_law_289 (by decide) (fun _ => ?_) (fun c13 => by exfalso; exact c13 (hw5.trans hw11.symm))
  exact law_tail C0k hS (lv_sub hl [0, 3] rfl)

set_option maxHeartbeats 4000000 in
set_option maxRecDepth 100000 in
theorem law_case_2 {p : Program} {l : Launch} {e : Env} {s : State} {m : MethodId} {below : List Frame} {meth : Method} {c : Code} {D : va_G} {cI cY cJ cQ : ClassId} {b : Nat} {xs : Nat → Int32} {ad rw md : Nat → Nat} {sd : Int32} {H : Heap} {locs : List Loc} {ls : Array Slot} (C0 : lawC p s m meth c b xs D cI cY cJ cQ) (hP : va_P D vwCl [((ad 0), .inr (10, [.ref (ad 1), .ref (ad 2), .ref (ad 3), .ref (ad 4), .ref (ad 5), .ref (ad 6), .ref (ad 7), .ref (ad 8), .ref (ad 9), .ref (ad 10), .ref (ad 11), .int 0, .int 0, .int 0])), ((ad 1), .inr (9, [.ref (ad 12), .ref (ad 13), .ref (ad 14)])), ((ad 14), .inl (cI, 8, .inl (fun _ => (-1)))), ((md 64), .inr (11, [.int 0, .long (sd.toInt64), .int 0, .ref (md 3), .ref (md 4), .ref (md 5), .int 0, .ref (md 7), .ref (md 8), .ref (md 9), .ref (md 10), .ref (md 11), .ref (md 12), .ref (md 13), .ref (md 14), .int 0, .ref (md 16), .ref (md 17), .int 0, .ref (md 19), .ref (md 20), .ref (md 21), .ref (md 22), .ref (md 23), .int 0, .int 0, .ref (md 26), .ref (md 27), .ref (md 28), .ref (md 29), .int 0, .ref (md 31), .int 0, .ref (md 33), .ref (md 34), .int 0, .int 0, .int 0, .int 0, .int 0, .int 0, .int 0, .int 0, .int 0, .int 0, .ref (md 45), .ref (md 46), .ref (md 47), .ref (md 48), .ref (md 49), .ref (md 50), .ref (md 51), .int 0, .ref (md 53), .ref (md 54), .ref (md 55), .ref (md 56), .int 0, .ref (md 58), .ref (md 59), .ref (md 60), .int 0, .ref (md 62), .int 0])), ((md 3), .inl (cI, 8, .inl (fun _ => (-1))))] H) (hD : va_D (fun q : Nat => s.heap.size ≤ q) [((ad 0), .inr (10, [.ref (ad 1), .ref (ad 2), .ref (ad 3), .ref (ad 4), .ref (ad 5), .ref (ad 6), .ref (ad 7), .ref (ad 8), .ref (ad 9), .ref (ad 10), .ref (ad 11), .int 0, .int 0, .int 0])), ((ad 1), .inr (9, [.ref (ad 12), .ref (ad 13), .ref (ad 14)])), ((ad 14), .inl (cI, 8, .inl (fun _ => (-1)))), ((md 64), .inr (11, [.int 0, .long (sd.toInt64), .int 0, .ref (md 3), .ref (md 4), .ref (md 5), .int 0, .ref (md 7), .ref (md 8), .ref (md 9), .ref (md 10), .ref (md 11), .ref (md 12), .ref (md 13), .ref (md 14), .int 0, .ref (md 16), .ref (md 17), .int 0, .ref (md 19), .ref (md 20), .ref (md 21), .ref (md 22), .ref (md 23), .int 0, .int 0, .ref (md 26), .ref (md 27), .ref (md 28), .ref (md 29), .int 0, .ref (md 31), .int 0, .ref (md 33), .ref (md 34), .int 0, .int 0, .int 0, .int 0, .int 0, .int 0, .int 0, .int 0, .int 0, .int 0, .ref (md 45), .ref (md 46), .ref (md 47), .ref (md 48), .ref (md 49), .ref (md 50), .ref (md 51), .int 0, .ref (md 53), .ref (md 54), .ref (md 55), .ref (md 56), .int 0, .ref (md 58), .ref (md 59), .ref (md 60), .int 0, .ref (md 62), .int 0])), ((md 3), .inl (cI, 8, .inl (fun _ => (-1))))]) (hS : va_S (fun q : Nat => s.heap.size ≤ q) s.heap H locs) (hl : lv_has ls 4 [(0, .ref b), (1, .ref (ad 0)), (2, .ref (md 64)), (3, .int 1)]) : W p l e room_1 s m #[Value.ref b] below meth c H locs 107 4890 (lw_Z below #[Value.ref b] s) (F0 m 294 ls []) := by
  have C0k := C0
  obtain ⟨C1, hK, hN⟩ := C0
  obtain ⟨hx, hb, hr, hml, hown, hts0, hX, hbl, hlocks, hgv⟩ := C1
  have hA : ∀ q : Nat, s.heap.size ≤ q → (fun q : Nat => s.heap.size ≤ q) q := fun _ h => h
  have hbA : ¬ (fun q : Nat => s.heap.size ≤ q) b := Nat.not_le.mpr hbl
  have hts : ∀ w ∈ wsL_law, w.before #[Value.ref b] s = true := fun w h => hts0 w (wsL_law_in w h)
  replace hown : s.vm.findClass RL = some m.cls := hown
  replace hb : c.code = cL_law := hb
  have hLI : (Int32.ofNat 7).toInt = 7 := by decide
  refine lv_aload_n hx hb dL_law_294 rfl (lv_at hl 1 rfl) ?_
  refine lv_aload_n hx hb dL_law_295 rfl (lv_at hl 0 rfl) ?_
  refine lv_iload_n hx hb dL_law_296 rfl (lv_at hl 3 rfl) ?_
  refine lv_iconst (v := 1) hx hb dL_law_297 (by decide) ?_
  refine lv_iadd hx hb dL_law_298 ?_
  refine lv_topi (fun v1 ev1 => ?_)
  replace ev1 : v1 = 2 := ev1.trans (by decide)
  subst ev1
  refine va_sld hx hb hX hbl hbA hS (i_in (by decide) (by decide)) dL_law_299 ?_
  refine lv_aload_n hx hb dL_law_300 rfl (lv_at hl 0 rfl) ?_
  refine lv_iload_n hx hb dL_law_301 rfl (lv_at hl 3 rfl) ?_
  refine lv_iconst (v := 2) hx hb dL_law_302 (by decide) ?_
  refine lv_iadd hx hb dL_law_303 ?_
  refine lv_topi (fun v2 ev2 => ?_)
  replace ev2 : v2 = 3 := ev2.trans (by decide)
  subst ev2
  refine va_sld hx hb hX hbl hbA hS (i_in (by decide) (by decide)) dL_law_304 ?_
  refine lv_aload_n hx hb dL_law_305 rfl (lv_at hl 0 rfl) ?_
  refine lv_iload_n hx hb dL_law_306 rfl (lv_at hl 3 rfl) ?_
  refine lv_iconst (v := 3) hx hb dL_law_307 (by decide) ?_
  refine lv_iadd hx hb dL_law_308 ?_
  refine lv_topi (fun v3 ev3 => ?_)
  replace ev3 : v3 = 4 := ev3.trans (by decide)
  subst ev3
  refine va_sld hx hb hX hbl hbA hS (i_in (by decide) (by decide)) dL_law_309 ?_
  refine lv_aload_n hx hb dL_law_310 rfl (lv_at hl 0 rfl) ?_
  refine lv_iload_n hx hb dL_law_311 rfl (lv_at hl 3 rfl) ?_
  refine lv_iconst (v := 4) hx hb dL_law_312 (by decide) ?_
  refine lv_iadd hx hb dL_law_313 ?_
  refine lv_topi (fun v4 ev4 => ?_)
  replace ev4 : v4 = 5 := ev4.trans (by decide)
  subst ev4
  refine va_sld hx hb hX hbl hbA hS (i_in (by decide) (by decide)) dL_law_314 ?_
  refine lv_aload_n hx hb dL_law_315 rfl (lv_at hl 0 rfl) ?_
  refine lv_iload_n hx hb dL_law_316 rfl (lv_at hl 3 rfl) ?_
  refine lv_iconst (v := 5) hx hb dL_law_317 (by decide) ?_
  refine lv_iadd hx hb dL_law_318 ?_
  refine lv_topi (fun v5 ev5 => ?_)
  replace ev5 : v5 = 6 := ev5.trans (by decide)
  subst ev5
  refine va_sld hx hb hX hbl hbA hS (i_in (by decide) (by decide)) dL_law_319 ?_
  refine st_i (wr := [((md 64), .inr (11, [.int 0, .long (sd.toInt64), .int 0, .ref (md 3), .ref (md 4), .ref (md 5), .int 0, .ref (md 7), .ref (md 8), .ref (md 9), .ref (md 10), .ref (md 11), .ref (md 12), .ref (md 13), .ref (md 14), .int 0, .ref (md 16), .ref (md 17), .int 0, .ref (md 19), .ref (md 20), .ref (md 21), .ref (md 22), .ref (md 23), .int 0, .int 0, .ref (md 26), .ref (md 27), .ref (md 28), .ref (md 29), .int 0, .ref (md 31), .int 0, .ref (md 33), .ref (md 34), .int 0, .int 0, .int 0, .int 0, .int 0, .int 0, .int 0, .int 0, .int 0, .int 0, .ref (md 45), .ref (md 46), .ref (md 47), .ref (md 48), .ref (md 49), .ref (md 50), .ref (md 51), .int 0, .ref (md 53), .ref (md 54), .ref (md 55), .ref (md 56), .int 0, .ref (md 58), .ref (md 59), .ref (md 60), .int 0, .ref (md 62), .int 0])), ((md 3), .inl (cI, 8, .inl (fun _ => (-1))))]) (va_runV (C := RX10) (As := [.int (xs ((2 : Int32).toNatClampNeg)), .int (xs ((3 : Int32).toNatClampNeg)), .int (xs ((4 : Int32).toNatClampNeg)), .int (xs ((5 : Int32).toNatClampNeg)), .int (xs ((6 : Int32).toNatClampNeg))]) (rest := []) ⟨hx, hb, hml, hown, hts⟩ (ct_X10_copy l D cI cY cJ cQ _ ad (xs ((2 : Int32).toNatClampNeg)) (xs ((3 : Int32).toNatClampNeg)) (xs ((4 : Int32).toNatClampNeg)) (xs ((5 : Int32).toNatClampNeg)) (xs ((6 : Int32).toNatClampNeg))) (cwV 5 hts gL_law_X10_copy rfl rfl rfl (by decide +kernel) ⟨Nat.le_of_ble_eq_true rfl, Nat.le_of_ble_eq_true rfl⟩) (cPreV (hP.sub [0, 1, 2] rfl) hK (hD.sub [0, 1, 2] (by decide) rfl) hN (ci := 10) (q0 := 0) rfl rfl) rfl rfl hl.1 rfl (lv_room (Nat.le_of_ble_eq_true rfl)) dL_law_320 ⟨Nat.le_of_ble_eq_true rfl, Nat.le_of_ble_eq_true rfl⟩) hP hD hS hA [0, 1, 2] [3, 4] rfl rfl (by decide) (by decide) (fun r8 u6 H locs hw7 hP hD hS => ?_)
  replace hP : va_P D vwCl [((md 64), .inr (11, [.int 0, .long (sd.toInt64), .int 0, .ref (md 3), .ref (md 4), .ref (md 5), .int 0, .ref (md 7), .ref (md 8), .ref (md 9), .ref (md 10), .ref (md 11), .ref (md 12), .ref (md 13), .ref (md 14), .int 0, .ref (md 16), .ref (md 17), .int 0, .ref (md 19), .ref (md 20), .ref (md 21), .ref (md 22), .ref (md 23), .int 0, .int 0, .ref (md 26), .ref (md 27), .ref (md 28), .ref (md 29), .int 0, .ref (md 31), .int 0, .ref (md 33), .ref (md 34), .int 0, .int 0, .int 0, .int 0, .int 0, .int 0, .int 0, .int 0, .int 0, .int 0, .ref (md 45), .ref (md 46), .ref (md 47), .ref (md 48), .ref (md 49), .ref (md 50), .ref (md 51), .int 0, .ref (md 53), .ref (md 54), .ref (md 55), .ref (md 56), .int 0, .ref (md 58), .ref (md 59), .ref (md 60), .int 0, .ref (md 62), .int 0])), ((md 3), .inl (cI, 8, .inl (fun _ => (-1))))] H := hP
  replace hD : va_D (fun q : Nat => s.heap.size ≤ q) [((md 64), .inr (11, [.int 0, .long (sd.toInt64), .int 0, .ref (md 3), .ref (md 4), .ref (md 5), .int 0, .ref (md 7), .ref (md 8), .ref (md 9), .ref (md 10), .ref (md 11), .ref (md 12), .ref (md 13), .ref (md 14), .int 0, .ref (md 16), .ref (md 17), .int 0, .ref (md 19), .ref (md 20), .ref (md 21), .ref (md 22), .ref (md 23), .int 0, .int 0, .ref (md 26), .ref (md 27), .ref (md 28), .ref (md 29), .int 0, .ref (md 31), .int 0, .ref (md 33), .ref (md 34), .int 0, .int 0, .int 0, .int 0, .int 0, .int 0, .int 0, .int 0, .int 0, .int 0, .ref (md 45), .ref (md 46), .ref (md 47), .ref (md 48), .ref (md 49), .ref (md 50), .ref (md 51), .int 0, .ref (md 53), .ref (md 54), .ref (md 55), .ref (md 56), .int 0, .ref (md 58), .ref (md 59), .ref (md 60), .int 0, .ref (md 62), .int 0])), ((md 3), .inl (cI, 8, .inl (fun _ => (-1))))] := hD
  refine lv_aload_n hx hb dL_law_323 rfl (lv_at hl 2 rfl) ?_
  refine lv_aload_n hx hb dL_law_324 rfl (lv_at hl 0 rfl) ?_
  refine lv_iload_n hx hb dL_law_325 rfl (lv_at hl 3 rfl) ?_
  refine lv_iconst (v := 1) hx hb dL_law_326 (by decide) ?_
  refine lv_iadd hx hb dL_law_327 ?_
  refine lv_topi (fun v9 ev9 => ?_)
  replace ev9 : v9 = 2 := ev9.trans (by decide)
  subst ev9
  refine va_sld hx hb hX hbl hbA hS (i_in (by decide) (by decide)) dL_law_328 ?_
  refine lv_aload_n hx hb dL_law_329 rfl (lv_at hl 0 rfl) ?_
  refine lv_iload_n hx hb dL_law_330 rfl (lv_at hl 3 rfl) ?_
  refine lv_iconst (v := 2) hx hb dL_law_331 (by decide) ?_
  refine lv_iadd hx hb dL_law_332 ?_
  refine lv_topi (fun v10 ev10 => ?_)
  replace ev10 : v10 = 3 := ev10.trans (by decide)
  subst ev10
  refine va_sld hx hb hX hbl hbA hS (i_in (by decide) (by decide)) dL_law_333 ?_
  refine lv_aload_n hx hb dL_law_334 rfl (lv_at hl 0 rfl) ?_
  refine lv_iload_n hx hb dL_law_335 rfl (lv_at hl 3 rfl) ?_
  refine lv_iconst (v := 3) hx hb dL_law_336 (by decide) ?_
  refine lv_iadd hx hb dL_law_337 ?_
  refine lv_topi (fun v11 ev11 => ?_)
  replace ev11 : v11 = 4 := ev11.trans (by decide)
  subst ev11
  refine va_sld hx hb hX hbl hbA hS (i_in (by decide) (by decide)) dL_law_338 ?_
  refine lv_aload_n hx hb dL_law_339 rfl (lv_at hl 0 rfl) ?_
  refine lv_iload_n hx hb dL_law_340 rfl (lv_at hl 3 rfl) ?_
  refine lv_iconst (v := 4) hx hb dL_law_341 (by decide) ?_
  refine lv_iadd hx hb dL_law_342 ?_
  refine lv_topi (fun v12 ev12 => ?_)
  replace ev12 : v12 = 5 := ev12.trans (by decide)
  subst ev12
  refine va_sld hx hb hX hbl hbA hS (i_in (by decide) (by decide)) dL_law_343 ?_
  refine lv_aload_n hx hb dL_law_344 rfl (lv_at hl 0 rfl) ?_
  refine lv_iload_n hx hb dL_law_345 rfl (lv_at hl 3 rfl) ?_
  refine lv_iconst (v := 5) hx hb dL_law_346 (by decide) ?_
  refine lv_iadd hx hb dL_law_347 ?_
  refine lv_topi (fun v13 ev13 => ?_)
  replace ev13 : v13 = 6 := ev13.trans (by decide)
  subst ev13
  refine va_sld hx hb hX hbl hbA hS (i_in (by decide) (by decide)) dL_law_348 ?_
  refine st_i (wr := []) (va_runV (C := RX11) (As := [.int (xs ((2 : Int32).toNatClampNeg)), .int (xs ((3 : Int32).toNatClampNeg)), .int (xs ((4 : Int32).toNatClampNeg)), .int (xs ((5 : Int32).toNatClampNeg)), .int (xs ((6 : Int32).toNatClampNeg))]) (rest := [.int r8]) ⟨hx, hb, hml, hown, hts⟩ (ct_X11_copy l D cI cY cJ cQ _ md sd (xs ((2 : Int32).toNatClampNeg)) (xs ((3 : Int32).toNatClampNeg)) (xs ((4 : Int32).toNatClampNeg)) (xs ((5 : Int32).toNatClampNeg)) (xs ((6 : Int32).toNatClampNeg))) (cwV 5 hts gL_law_X11_copy rfl rfl rfl (by decide +kernel) ⟨Nat.le_of_ble_eq_true rfl, Nat.le_of_ble_eq_true rfl⟩) (cPreV (hP.sub [0, 1] rfl) hK (hD.sub [0, 1] (by decide) rfl) hN (ci := 11) (q0 := 0) rfl rfl) rfl rfl hl.1 rfl (lv_room (Nat.le_of_ble_eq_true rfl)) dL_law_349 ⟨Nat.le_of_ble_eq_true rfl, Nat.le_of_ble_eq_true rfl⟩) hP hD hS hA [0, 1] [] rfl rfl (by decide) (by decide) (fun r16 u14 H locs hw15 hP hD hS => ?_)
  replace hP : va_P D vwCl [] H := hP
  replace hD : va_D (fun q : Nat => s.heap.size ≤ q) [] := hD
  refine lv_icmp_eq (tgt := 1652) hx hb dL_law_352 (by decide) (fun _ => ?_) (fun c17 => by exfalso; exact c17 (hw7.trans hw15.symm))
  exact law_tail C0k hS (lv_sub hl [0, 3] rfl)

set_option maxHeartbeats 4000000 in
set_option maxRecDepth 100000 in
theorem law_case_3 {p : Program} {l : Launch} {e : Env} {s : State} {m : MethodId} {below : List Frame} {meth : Method} {c : Code} {D : va_G} {cI cY cJ cQ : ClassId} {b : Nat} {xs : Nat → Int32} {ad rw md : Nat → Nat} {sd : Int32} {H : Heap} {locs : List Loc} {ls : Array Slot} (C0 : lawC p s m meth c b xs D cI cY cJ cQ) (hP : va_P D vwCl [((ad 0), .inr (10, [.ref (ad 1), .ref (ad 2), .ref (ad 3), .ref (ad 4), .ref (ad 5), .ref (ad 6), .ref (ad 7), .ref (ad 8), .ref (ad 9), .ref (ad 10), .ref (ad 11), .int 0, .int 0, .int 0])), ((ad 1), .inr (9, [.ref (ad 12), .ref (ad 13), .ref (ad 14)])), ((ad 14), .inl (cI, 8, .inl (fun _ => (-1)))), ((md 64), .inr (11, [.int 0, .long (sd.toInt64), .int 0, .ref (md 3), .ref (md 4), .ref (md 5), .int 0, .ref (md 7), .ref (md 8), .ref (md 9), .ref (md 10), .ref (md 11), .ref (md 12), .ref (md 13), .ref (md 14), .int 0, .ref (md 16), .ref (md 17), .int 0, .ref (md 19), .ref (md 20), .ref (md 21), .ref (md 22), .ref (md 23), .int 0, .int 0, .ref (md 26), .ref (md 27), .ref (md 28), .ref (md 29), .int 0, .ref (md 31), .int 0, .ref (md 33), .ref (md 34), .int 0, .int 0, .int 0, .int 0, .int 0, .int 0, .int 0, .int 0, .int 0, .int 0, .ref (md 45), .ref (md 46), .ref (md 47), .ref (md 48), .ref (md 49), .ref (md 50), .ref (md 51), .int 0, .ref (md 53), .ref (md 54), .ref (md 55), .ref (md 56), .int 0, .ref (md 58), .ref (md 59), .ref (md 60), .int 0, .ref (md 62), .int 0])), ((md 3), .inl (cI, 8, .inl (fun _ => (-1))))] H) (hD : va_D (fun q : Nat => s.heap.size ≤ q) [((ad 0), .inr (10, [.ref (ad 1), .ref (ad 2), .ref (ad 3), .ref (ad 4), .ref (ad 5), .ref (ad 6), .ref (ad 7), .ref (ad 8), .ref (ad 9), .ref (ad 10), .ref (ad 11), .int 0, .int 0, .int 0])), ((ad 1), .inr (9, [.ref (ad 12), .ref (ad 13), .ref (ad 14)])), ((ad 14), .inl (cI, 8, .inl (fun _ => (-1)))), ((md 64), .inr (11, [.int 0, .long (sd.toInt64), .int 0, .ref (md 3), .ref (md 4), .ref (md 5), .int 0, .ref (md 7), .ref (md 8), .ref (md 9), .ref (md 10), .ref (md 11), .ref (md 12), .ref (md 13), .ref (md 14), .int 0, .ref (md 16), .ref (md 17), .int 0, .ref (md 19), .ref (md 20), .ref (md 21), .ref (md 22), .ref (md 23), .int 0, .int 0, .ref (md 26), .ref (md 27), .ref (md 28), .ref (md 29), .int 0, .ref (md 31), .int 0, .ref (md 33), .ref (md 34), .int 0, .int 0, .int 0, .int 0, .int 0, .int 0, .int 0, .int 0, .int 0, .int 0, .ref (md 45), .ref (md 46), .ref (md 47), .ref (md 48), .ref (md 49), .ref (md 50), .ref (md 51), .int 0, .ref (md 53), .ref (md 54), .ref (md 55), .ref (md 56), .int 0, .ref (md 58), .ref (md 59), .ref (md 60), .int 0, .ref (md 62), .int 0])), ((md 3), .inl (cI, 8, .inl (fun _ => (-1))))]) (hS : va_S (fun q : Nat => s.heap.size ≤ q) s.heap H locs) (hl : lv_has ls 4 [(0, .ref b), (1, .ref (ad 0)), (2, .ref (md 64)), (3, .int 1)]) : W p l e room_1 s m #[Value.ref b] below meth c H locs 107 4890 (lw_Z below #[Value.ref b] s) (F0 m 357 ls []) := by
  have C0k := C0
  obtain ⟨C1, hK, hN⟩ := C0
  obtain ⟨hx, hb, hr, hml, hown, hts0, hX, hbl, hlocks, hgv⟩ := C1
  have hA : ∀ q : Nat, s.heap.size ≤ q → (fun q : Nat => s.heap.size ≤ q) q := fun _ h => h
  have hbA : ¬ (fun q : Nat => s.heap.size ≤ q) b := Nat.not_le.mpr hbl
  have hts : ∀ w ∈ wsL_law, w.before #[Value.ref b] s = true := fun w h => hts0 w (wsL_law_in w h)
  replace hown : s.vm.findClass RL = some m.cls := hown
  replace hb : c.code = cL_law := hb
  have hLI : (Int32.ofNat 7).toInt = 7 := by decide
  refine lv_aload_n hx hb dL_law_357 rfl (lv_at hl 1 rfl) ?_
  refine lv_aload_n hx hb dL_law_358 rfl (lv_at hl 0 rfl) ?_
  refine lv_iload_n hx hb dL_law_359 rfl (lv_at hl 3 rfl) ?_
  refine lv_iconst (v := 1) hx hb dL_law_360 (by decide) ?_
  refine lv_iadd hx hb dL_law_361 ?_
  refine lv_topi (fun v1 ev1 => ?_)
  replace ev1 : v1 = 2 := ev1.trans (by decide)
  subst ev1
  refine va_sld hx hb hX hbl hbA hS (i_in (by decide) (by decide)) dL_law_362 ?_
  refine st_i (wr := [((md 64), .inr (11, [.int 0, .long (sd.toInt64), .int 0, .ref (md 3), .ref (md 4), .ref (md 5), .int 0, .ref (md 7), .ref (md 8), .ref (md 9), .ref (md 10), .ref (md 11), .ref (md 12), .ref (md 13), .ref (md 14), .int 0, .ref (md 16), .ref (md 17), .int 0, .ref (md 19), .ref (md 20), .ref (md 21), .ref (md 22), .ref (md 23), .int 0, .int 0, .ref (md 26), .ref (md 27), .ref (md 28), .ref (md 29), .int 0, .ref (md 31), .int 0, .ref (md 33), .ref (md 34), .int 0, .int 0, .int 0, .int 0, .int 0, .int 0, .int 0, .int 0, .int 0, .int 0, .ref (md 45), .ref (md 46), .ref (md 47), .ref (md 48), .ref (md 49), .ref (md 50), .ref (md 51), .int 0, .ref (md 53), .ref (md 54), .ref (md 55), .ref (md 56), .int 0, .ref (md 58), .ref (md 59), .ref (md 60), .int 0, .ref (md 62), .int 0])), ((md 3), .inl (cI, 8, .inl (fun _ => (-1))))]) (va_runV (C := RX10) (As := [.int (xs ((2 : Int32).toNatClampNeg))]) (rest := []) ⟨hx, hb, hml, hown, hts⟩ (ct_X10_drop l D cI cY cJ cQ _ ad (xs ((2 : Int32).toNatClampNeg))) (cwV 1 hts gL_law_X10_drop rfl rfl rfl (by decide +kernel) ⟨Nat.le_of_ble_eq_true rfl, Nat.le_of_ble_eq_true rfl⟩) (cPreV (hP.sub [0, 1, 2] rfl) hK (hD.sub [0, 1, 2] (by decide) rfl) hN (ci := 10) (q0 := 0) rfl rfl) rfl rfl hl.1 rfl (lv_room (Nat.le_of_ble_eq_true rfl)) dL_law_363 ⟨Nat.le_of_ble_eq_true rfl, Nat.le_of_ble_eq_true rfl⟩) hP hD hS hA [0, 1, 2] [3, 4] rfl rfl (by decide) (by decide) (fun r4 u2 H locs hw3 hP hD hS => ?_)
  replace hP : va_P D vwCl [((md 64), .inr (11, [.int 0, .long (sd.toInt64), .int 0, .ref (md 3), .ref (md 4), .ref (md 5), .int 0, .ref (md 7), .ref (md 8), .ref (md 9), .ref (md 10), .ref (md 11), .ref (md 12), .ref (md 13), .ref (md 14), .int 0, .ref (md 16), .ref (md 17), .int 0, .ref (md 19), .ref (md 20), .ref (md 21), .ref (md 22), .ref (md 23), .int 0, .int 0, .ref (md 26), .ref (md 27), .ref (md 28), .ref (md 29), .int 0, .ref (md 31), .int 0, .ref (md 33), .ref (md 34), .int 0, .int 0, .int 0, .int 0, .int 0, .int 0, .int 0, .int 0, .int 0, .int 0, .ref (md 45), .ref (md 46), .ref (md 47), .ref (md 48), .ref (md 49), .ref (md 50), .ref (md 51), .int 0, .ref (md 53), .ref (md 54), .ref (md 55), .ref (md 56), .int 0, .ref (md 58), .ref (md 59), .ref (md 60), .int 0, .ref (md 62), .int 0])), ((md 3), .inl (cI, 8, .inl (fun _ => (-1))))] H := hP
  replace hD : va_D (fun q : Nat => s.heap.size ≤ q) [((md 64), .inr (11, [.int 0, .long (sd.toInt64), .int 0, .ref (md 3), .ref (md 4), .ref (md 5), .int 0, .ref (md 7), .ref (md 8), .ref (md 9), .ref (md 10), .ref (md 11), .ref (md 12), .ref (md 13), .ref (md 14), .int 0, .ref (md 16), .ref (md 17), .int 0, .ref (md 19), .ref (md 20), .ref (md 21), .ref (md 22), .ref (md 23), .int 0, .int 0, .ref (md 26), .ref (md 27), .ref (md 28), .ref (md 29), .int 0, .ref (md 31), .int 0, .ref (md 33), .ref (md 34), .int 0, .int 0, .int 0, .int 0, .int 0, .int 0, .int 0, .int 0, .int 0, .int 0, .ref (md 45), .ref (md 46), .ref (md 47), .ref (md 48), .ref (md 49), .ref (md 50), .ref (md 51), .int 0, .ref (md 53), .ref (md 54), .ref (md 55), .ref (md 56), .int 0, .ref (md 58), .ref (md 59), .ref (md 60), .int 0, .ref (md 62), .int 0])), ((md 3), .inl (cI, 8, .inl (fun _ => (-1))))] := hD
  refine lv_aload_n hx hb dL_law_366 rfl (lv_at hl 2 rfl) ?_
  refine lv_aload_n hx hb dL_law_367 rfl (lv_at hl 0 rfl) ?_
  refine lv_iload_n hx hb dL_law_368 rfl (lv_at hl 3 rfl) ?_
  refine lv_iconst (v := 1) hx hb dL_law_369 (by decide) ?_
  refine lv_iadd hx hb dL_law_370 ?_
  refine lv_topi (fun v5 ev5 => ?_)
  replace ev5 : v5 = 2 := ev5.trans (by decide)
  subst ev5
  refine va_sld hx hb hX hbl hbA hS (i_in (by decide) (by decide)) dL_law_371 ?_
  refine st_i (wr := []) (va_runV (C := RX11) (As := [.int (xs ((2 : Int32).toNatClampNeg))]) (rest := [.int r4]) ⟨hx, hb, hml, hown, hts⟩ (ct_X11_drop l D cI cY cJ cQ _ md sd (xs ((2 : Int32).toNatClampNeg))) (cwV 1 hts gL_law_X11_drop rfl rfl rfl (by decide +kernel) ⟨Nat.le_of_ble_eq_true rfl, Nat.le_of_ble_eq_true rfl⟩) (cPreV (hP.sub [0, 1] rfl) hK (hD.sub [0, 1] (by decide) rfl) hN (ci := 11) (q0 := 0) rfl rfl) rfl rfl hl.1 rfl (lv_room (Nat.le_of_ble_eq_true rfl)) dL_law_372 ⟨Nat.le_of_ble_eq_true rfl, Nat.le_of_ble_eq_true rfl⟩) hP hD hS hA [0, 1] [] rfl rfl (by decide) (by decide) (fun r8 u6 H locs hw7 hP hD hS => ?_)
  replace hP : va_P D vwCl [] H := hP
  replace hD : va_D (fun q : Nat => s.heap.size ≤ q) [] := hD
  refine lv_icmp_eq (tgt := 1652) hx hb dL_law_375 (by decide) (fun _ => ?_) (fun c9 => by exfalso; exact c9 (hw3.trans hw7.symm))
  exact law_tail C0k hS (lv_sub hl [0, 3] rfl)

set_option maxHeartbeats 4000000 in
set_option maxRecDepth 100000 in
theorem law_case_4 {p : Program} {l : Launch} {e : Env} {s : State} {m : MethodId} {below : List Frame} {meth : Method} {c : Code} {D : va_G} {cI cY cJ cQ : ClassId} {b : Nat} {xs : Nat → Int32} {ad rw md : Nat → Nat} {sd : Int32} {H : Heap} {locs : List Loc} {ls : Array Slot} (C0 : lawC p s m meth c b xs D cI cY cJ cQ) (hP : va_P D vwCl [((ad 0), .inr (10, [.ref (ad 1), .ref (ad 2), .ref (ad 3), .ref (ad 4), .ref (ad 5), .ref (ad 6), .ref (ad 7), .ref (ad 8), .ref (ad 9), .ref (ad 10), .ref (ad 11), .int 0, .int 0, .int 0])), ((ad 2), .inr (3, [.ref (ad 23), .ref (ad 24), .ref (ad 25), .ref (ad 26), .int 0, .ref (ad 27), .ref (ad 28), .ref (ad 29), .ref (ad 30)])), ((ad 23), .inl (cI, 40, .inl (fun _ => 0))), ((ad 24), .inl (cI, 40, .inl (fun _ => 0))), ((ad 25), .inl (cI, 40, .inl (fun _ => 0))), ((ad 26), .inl (cI, 40, .inl (fun _ => 0))), ((md 64), .inr (11, [.int 0, .long (sd.toInt64), .int 0, .ref (md 3), .ref (md 4), .ref (md 5), .int 0, .ref (md 7), .ref (md 8), .ref (md 9), .ref (md 10), .ref (md 11), .ref (md 12), .ref (md 13), .ref (md 14), .int 0, .ref (md 16), .ref (md 17), .int 0, .ref (md 19), .ref (md 20), .ref (md 21), .ref (md 22), .ref (md 23), .int 0, .int 0, .ref (md 26), .ref (md 27), .ref (md 28), .ref (md 29), .int 0, .ref (md 31), .int 0, .ref (md 33), .ref (md 34), .int 0, .int 0, .int 0, .int 0, .int 0, .int 0, .int 0, .int 0, .int 0, .int 0, .ref (md 45), .ref (md 46), .ref (md 47), .ref (md 48), .ref (md 49), .ref (md 50), .ref (md 51), .int 0, .ref (md 53), .ref (md 54), .ref (md 55), .ref (md 56), .int 0, .ref (md 58), .ref (md 59), .ref (md 60), .int 0, .ref (md 62), .int 0])), ((md 7), .inl (cI, 40, .inl (fun _ => 0))), ((md 8), .inl (cI, 40, .inl (fun _ => 0))), ((md 9), .inl (cI, 40, .inl (fun _ => 0))), ((md 10), .inl (cI, 40, .inl (fun _ => 0)))] H) (hD : va_D (fun q : Nat => s.heap.size ≤ q) [((ad 0), .inr (10, [.ref (ad 1), .ref (ad 2), .ref (ad 3), .ref (ad 4), .ref (ad 5), .ref (ad 6), .ref (ad 7), .ref (ad 8), .ref (ad 9), .ref (ad 10), .ref (ad 11), .int 0, .int 0, .int 0])), ((ad 2), .inr (3, [.ref (ad 23), .ref (ad 24), .ref (ad 25), .ref (ad 26), .int 0, .ref (ad 27), .ref (ad 28), .ref (ad 29), .ref (ad 30)])), ((ad 23), .inl (cI, 40, .inl (fun _ => 0))), ((ad 24), .inl (cI, 40, .inl (fun _ => 0))), ((ad 25), .inl (cI, 40, .inl (fun _ => 0))), ((ad 26), .inl (cI, 40, .inl (fun _ => 0))), ((md 64), .inr (11, [.int 0, .long (sd.toInt64), .int 0, .ref (md 3), .ref (md 4), .ref (md 5), .int 0, .ref (md 7), .ref (md 8), .ref (md 9), .ref (md 10), .ref (md 11), .ref (md 12), .ref (md 13), .ref (md 14), .int 0, .ref (md 16), .ref (md 17), .int 0, .ref (md 19), .ref (md 20), .ref (md 21), .ref (md 22), .ref (md 23), .int 0, .int 0, .ref (md 26), .ref (md 27), .ref (md 28), .ref (md 29), .int 0, .ref (md 31), .int 0, .ref (md 33), .ref (md 34), .int 0, .int 0, .int 0, .int 0, .int 0, .int 0, .int 0, .int 0, .int 0, .int 0, .ref (md 45), .ref (md 46), .ref (md 47), .ref (md 48), .ref (md 49), .ref (md 50), .ref (md 51), .int 0, .ref (md 53), .ref (md 54), .ref (md 55), .ref (md 56), .int 0, .ref (md 58), .ref (md 59), .ref (md 60), .int 0, .ref (md 62), .int 0])), ((md 7), .inl (cI, 40, .inl (fun _ => 0))), ((md 8), .inl (cI, 40, .inl (fun _ => 0))), ((md 9), .inl (cI, 40, .inl (fun _ => 0))), ((md 10), .inl (cI, 40, .inl (fun _ => 0)))]) (hS : va_S (fun q : Nat => s.heap.size ≤ q) s.heap H locs) (hl : lv_has ls 4 [(0, .ref b), (1, .ref (ad 0)), (2, .ref (md 64)), (3, .int 1)]) : W p l e room_1 s m #[Value.ref b] below meth c H locs 107 4890 (lw_Z below #[Value.ref b] s) (F0 m 380 ls []) := by
  have C0k := C0
  obtain ⟨C1, hK, hN⟩ := C0
  obtain ⟨hx, hb, hr, hml, hown, hts0, hX, hbl, hlocks, hgv⟩ := C1
  have hA : ∀ q : Nat, s.heap.size ≤ q → (fun q : Nat => s.heap.size ≤ q) q := fun _ h => h
  have hbA : ¬ (fun q : Nat => s.heap.size ≤ q) b := Nat.not_le.mpr hbl
  have hts : ∀ w ∈ wsL_law, w.before #[Value.ref b] s = true := fun w h => hts0 w (wsL_law_in w h)
  replace hown : s.vm.findClass RL = some m.cls := hown
  replace hb : c.code = cL_law := hb
  have hLI : (Int32.ofNat 7).toInt = 7 := by decide
  refine lv_aload_n hx hb dL_law_380 rfl (lv_at hl 1 rfl) ?_
  refine lv_aload_n hx hb dL_law_381 rfl (lv_at hl 0 rfl) ?_
  refine lv_iload_n hx hb dL_law_382 rfl (lv_at hl 3 rfl) ?_
  refine lv_iconst (v := 1) hx hb dL_law_383 (by decide) ?_
  refine lv_iadd hx hb dL_law_384 ?_
  refine lv_topi (fun v1 ev1 => ?_)
  replace ev1 : v1 = 2 := ev1.trans (by decide)
  subst ev1
  refine va_sld hx hb hX hbl hbA hS (i_in (by decide) (by decide)) dL_law_385 ?_
  refine lv_aload_n hx hb dL_law_386 rfl (lv_at hl 0 rfl) ?_
  refine lv_iload_n hx hb dL_law_387 rfl (lv_at hl 3 rfl) ?_
  refine lv_iconst (v := 2) hx hb dL_law_388 (by decide) ?_
  refine lv_iadd hx hb dL_law_389 ?_
  refine lv_topi (fun v2 ev2 => ?_)
  replace ev2 : v2 = 3 := ev2.trans (by decide)
  subst ev2
  refine va_sld hx hb hX hbl hbA hS (i_in (by decide) (by decide)) dL_law_390 ?_
  refine lv_aload_n hx hb dL_law_391 rfl (lv_at hl 0 rfl) ?_
  refine lv_iload_n hx hb dL_law_392 rfl (lv_at hl 3 rfl) ?_
  refine lv_iconst (v := 3) hx hb dL_law_393 (by decide) ?_
  refine lv_iadd hx hb dL_law_394 ?_
  refine lv_topi (fun v3 ev3 => ?_)
  replace ev3 : v3 = 4 := ev3.trans (by decide)
  subst ev3
  refine va_sld hx hb hX hbl hbA hS (i_in (by decide) (by decide)) dL_law_395 ?_
  refine lv_aload_n hx hb dL_law_396 rfl (lv_at hl 0 rfl) ?_
  refine lv_iload_n hx hb dL_law_397 rfl (lv_at hl 3 rfl) ?_
  refine lv_iconst (v := 4) hx hb dL_law_398 (by decide) ?_
  refine lv_iadd hx hb dL_law_399 ?_
  refine lv_topi (fun v4 ev4 => ?_)
  replace ev4 : v4 = 5 := ev4.trans (by decide)
  subst ev4
  refine va_sld hx hb hX hbl hbA hS (i_in (by decide) (by decide)) dL_law_400 ?_
  refine st_i (wr := [((md 64), .inr (11, [.int 0, .long (sd.toInt64), .int 0, .ref (md 3), .ref (md 4), .ref (md 5), .int 0, .ref (md 7), .ref (md 8), .ref (md 9), .ref (md 10), .ref (md 11), .ref (md 12), .ref (md 13), .ref (md 14), .int 0, .ref (md 16), .ref (md 17), .int 0, .ref (md 19), .ref (md 20), .ref (md 21), .ref (md 22), .ref (md 23), .int 0, .int 0, .ref (md 26), .ref (md 27), .ref (md 28), .ref (md 29), .int 0, .ref (md 31), .int 0, .ref (md 33), .ref (md 34), .int 0, .int 0, .int 0, .int 0, .int 0, .int 0, .int 0, .int 0, .int 0, .int 0, .ref (md 45), .ref (md 46), .ref (md 47), .ref (md 48), .ref (md 49), .ref (md 50), .ref (md 51), .int 0, .ref (md 53), .ref (md 54), .ref (md 55), .ref (md 56), .int 0, .ref (md 58), .ref (md 59), .ref (md 60), .int 0, .ref (md 62), .int 0])), ((md 7), .inl (cI, 40, .inl (fun _ => 0))), ((md 8), .inl (cI, 40, .inl (fun _ => 0))), ((md 9), .inl (cI, 40, .inl (fun _ => 0))), ((md 10), .inl (cI, 40, .inl (fun _ => 0)))]) (va_runV (C := RX10) (As := [.int (xs ((2 : Int32).toNatClampNeg)), .int (xs ((3 : Int32).toNatClampNeg)), .int (xs ((4 : Int32).toNatClampNeg)), .int (xs ((5 : Int32).toNatClampNeg))]) (rest := []) ⟨hx, hb, hml, hown, hts⟩ (ct_X10_hold l D cI cY cJ cQ _ ad (xs ((2 : Int32).toNatClampNeg)) (xs ((3 : Int32).toNatClampNeg)) (xs ((4 : Int32).toNatClampNeg)) (xs ((5 : Int32).toNatClampNeg))) (cwV 4 hts gL_law_X10_hold rfl rfl rfl (by decide +kernel) ⟨Nat.le_of_ble_eq_true rfl, Nat.le_of_ble_eq_true rfl⟩) (cPreV (hP.sub [0, 1, 2, 3, 4, 5] rfl) hK (hD.sub [0, 1, 2, 3, 4, 5] (by decide) rfl) hN (ci := 10) (q0 := 0) rfl rfl) rfl rfl hl.1 rfl (lv_room (Nat.le_of_ble_eq_true rfl)) dL_law_401 ⟨Nat.le_of_ble_eq_true rfl, Nat.le_of_ble_eq_true rfl⟩) hP hD hS hA [0, 1, 2, 3, 4, 5] [6, 7, 8, 9, 10] rfl rfl (by decide) (by decide) (fun r7 u5 H locs hw6 hP hD hS => ?_)
  replace hP : va_P D vwCl [((md 64), .inr (11, [.int 0, .long (sd.toInt64), .int 0, .ref (md 3), .ref (md 4), .ref (md 5), .int 0, .ref (md 7), .ref (md 8), .ref (md 9), .ref (md 10), .ref (md 11), .ref (md 12), .ref (md 13), .ref (md 14), .int 0, .ref (md 16), .ref (md 17), .int 0, .ref (md 19), .ref (md 20), .ref (md 21), .ref (md 22), .ref (md 23), .int 0, .int 0, .ref (md 26), .ref (md 27), .ref (md 28), .ref (md 29), .int 0, .ref (md 31), .int 0, .ref (md 33), .ref (md 34), .int 0, .int 0, .int 0, .int 0, .int 0, .int 0, .int 0, .int 0, .int 0, .int 0, .ref (md 45), .ref (md 46), .ref (md 47), .ref (md 48), .ref (md 49), .ref (md 50), .ref (md 51), .int 0, .ref (md 53), .ref (md 54), .ref (md 55), .ref (md 56), .int 0, .ref (md 58), .ref (md 59), .ref (md 60), .int 0, .ref (md 62), .int 0])), ((md 7), .inl (cI, 40, .inl (fun _ => 0))), ((md 8), .inl (cI, 40, .inl (fun _ => 0))), ((md 9), .inl (cI, 40, .inl (fun _ => 0))), ((md 10), .inl (cI, 40, .inl (fun _ => 0)))] H := hP
  replace hD : va_D (fun q : Nat => s.heap.size ≤ q) [((md 64), .inr (11, [.int 0, .long (sd.toInt64), .int 0, .ref (md 3), .ref (md 4), .ref (md 5), .int 0, .ref (md 7), .ref (md 8), .ref (md 9), .ref (md 10), .ref (md 11), .ref (md 12), .ref (md 13), .ref (md 14), .int 0, .ref (md 16), .ref (md 17), .int 0, .ref (md 19), .ref (md 20), .ref (md 21), .ref (md 22), .ref (md 23), .int 0, .int 0, .ref (md 26), .ref (md 27), .ref (md 28), .ref (md 29), .int 0, .ref (md 31), .int 0, .ref (md 33), .ref (md 34), .int 0, .int 0, .int 0, .int 0, .int 0, .int 0, .int 0, .int 0, .int 0, .int 0, .ref (md 45), .ref (md 46), .ref (md 47), .ref (md 48), .ref (md 49), .ref (md 50), .ref (md 51), .int 0, .ref (md 53), .ref (md 54), .ref (md 55), .ref (md 56), .int 0, .ref (md 58), .ref (md 59), .ref (md 60), .int 0, .ref (md 62), .int 0])), ((md 7), .inl (cI, 40, .inl (fun _ => 0))), ((md 8), .inl (cI, 40, .inl (fun _ => 0))), ((md 9), .inl (cI, 40, .inl (fun _ => 0))), ((md 10), .inl (cI, 40, .inl (fun _ => 0)))] := hD
  refine lv_aload_n hx hb dL_law_404 rfl (lv_at hl 2 rfl) ?_
  refine lv_aload_n hx hb dL_law_405 rfl (lv_at hl 0 rfl) ?_
  refine lv_iload_n hx hb dL_law_406 rfl (lv_at hl 3 rfl) ?_
  refine lv_iconst (v := 1) hx hb dL_law_407 (by decide) ?_
  refine lv_iadd hx hb dL_law_408 ?_
  refine lv_topi (fun v8 ev8 => ?_)
  replace ev8 : v8 = 2 := ev8.trans (by decide)
  subst ev8
  refine va_sld hx hb hX hbl hbA hS (i_in (by decide) (by decide)) dL_law_409 ?_
  refine lv_aload_n hx hb dL_law_410 rfl (lv_at hl 0 rfl) ?_
  refine lv_iload_n hx hb dL_law_411 rfl (lv_at hl 3 rfl) ?_
  refine lv_iconst (v := 2) hx hb dL_law_412 (by decide) ?_
  refine lv_iadd hx hb dL_law_413 ?_
  refine lv_topi (fun v9 ev9 => ?_)
  replace ev9 : v9 = 3 := ev9.trans (by decide)
  subst ev9
  refine va_sld hx hb hX hbl hbA hS (i_in (by decide) (by decide)) dL_law_414 ?_
  refine lv_aload_n hx hb dL_law_415 rfl (lv_at hl 0 rfl) ?_
  refine lv_iload_n hx hb dL_law_416 rfl (lv_at hl 3 rfl) ?_
  refine lv_iconst (v := 3) hx hb dL_law_417 (by decide) ?_
  refine lv_iadd hx hb dL_law_418 ?_
  refine lv_topi (fun v10 ev10 => ?_)
  replace ev10 : v10 = 4 := ev10.trans (by decide)
  subst ev10
  refine va_sld hx hb hX hbl hbA hS (i_in (by decide) (by decide)) dL_law_419 ?_
  refine lv_aload_n hx hb dL_law_420 rfl (lv_at hl 0 rfl) ?_
  refine lv_iload_n hx hb dL_law_421 rfl (lv_at hl 3 rfl) ?_
  refine lv_iconst (v := 4) hx hb dL_law_422 (by decide) ?_
  refine lv_iadd hx hb dL_law_423 ?_
  refine lv_topi (fun v11 ev11 => ?_)
  replace ev11 : v11 = 5 := ev11.trans (by decide)
  subst ev11
  refine va_sld hx hb hX hbl hbA hS (i_in (by decide) (by decide)) dL_law_424 ?_
  refine st_i (wr := []) (va_runV (C := RX11) (As := [.int (xs ((2 : Int32).toNatClampNeg)), .int (xs ((3 : Int32).toNatClampNeg)), .int (xs ((4 : Int32).toNatClampNeg)), .int (xs ((5 : Int32).toNatClampNeg))]) (rest := [.int r7]) ⟨hx, hb, hml, hown, hts⟩ (ct_X11_hold l D cI cY cJ cQ _ md sd (xs ((2 : Int32).toNatClampNeg)) (xs ((3 : Int32).toNatClampNeg)) (xs ((4 : Int32).toNatClampNeg)) (xs ((5 : Int32).toNatClampNeg))) (cwV 4 hts gL_law_X11_hold rfl rfl rfl (by decide +kernel) ⟨Nat.le_of_ble_eq_true rfl, Nat.le_of_ble_eq_true rfl⟩) (cPreV (hP.sub [0, 1, 2, 3, 4] rfl) hK (hD.sub [0, 1, 2, 3, 4] (by decide) rfl) hN (ci := 11) (q0 := 0) rfl rfl) rfl rfl hl.1 rfl (lv_room (Nat.le_of_ble_eq_true rfl)) dL_law_425 ⟨Nat.le_of_ble_eq_true rfl, Nat.le_of_ble_eq_true rfl⟩) hP hD hS hA [0, 1, 2, 3, 4] [] rfl rfl (by decide) (by decide) (fun r14 u12 H locs hw13 hP hD hS => ?_)
  replace hP : va_P D vwCl [] H := hP
  replace hD : va_D (fun q : Nat => s.heap.size ≤ q) [] := hD
  refine lv_icmp_eq (tgt := 1652) hx hb dL_law_428 (by decide) (fun _ => ?_) (fun c15 => by exfalso; exact c15 (hw6.trans hw13.symm))
  exact law_tail C0k hS (lv_sub hl [0, 3] rfl)

set_option maxHeartbeats 4000000 in
set_option maxRecDepth 100000 in
theorem law_case_5 {p : Program} {l : Launch} {e : Env} {s : State} {m : MethodId} {below : List Frame} {meth : Method} {c : Code} {D : va_G} {cI cY cJ cQ : ClassId} {b : Nat} {xs : Nat → Int32} {ad rw md : Nat → Nat} {sd : Int32} {H : Heap} {locs : List Loc} {ls : Array Slot} (C0 : lawC p s m meth c b xs D cI cY cJ cQ) (hP : va_P D vwCl [((ad 0), .inr (10, [.ref (ad 1), .ref (ad 2), .ref (ad 3), .ref (ad 4), .ref (ad 5), .ref (ad 6), .ref (ad 7), .ref (ad 8), .ref (ad 9), .ref (ad 10), .ref (ad 11), .int 0, .int 0, .int 0])), ((ad 1), .inr (9, [.ref (ad 12), .ref (ad 13), .ref (ad 14)])), ((ad 14), .inl (cI, 8, .inl (fun _ => (-1)))), ((md 64), .inr (11, [.int 0, .long (sd.toInt64), .int 0, .ref (md 3), .ref (md 4), .ref (md 5), .int 0, .ref (md 7), .ref (md 8), .ref (md 9), .ref (md 10), .ref (md 11), .ref (md 12), .ref (md 13), .ref (md 14), .int 0, .ref (md 16), .ref (md 17), .int 0, .ref (md 19), .ref (md 20), .ref (md 21), .ref (md 22), .ref (md 23), .int 0, .int 0, .ref (md 26), .ref (md 27), .ref (md 28), .ref (md 29), .int 0, .ref (md 31), .int 0, .ref (md 33), .ref (md 34), .int 0, .int 0, .int 0, .int 0, .int 0, .int 0, .int 0, .int 0, .int 0, .int 0, .ref (md 45), .ref (md 46), .ref (md 47), .ref (md 48), .ref (md 49), .ref (md 50), .ref (md 51), .int 0, .ref (md 53), .ref (md 54), .ref (md 55), .ref (md 56), .int 0, .ref (md 58), .ref (md 59), .ref (md 60), .int 0, .ref (md 62), .int 0])), ((md 3), .inl (cI, 8, .inl (fun _ => (-1))))] H) (hD : va_D (fun q : Nat => s.heap.size ≤ q) [((ad 0), .inr (10, [.ref (ad 1), .ref (ad 2), .ref (ad 3), .ref (ad 4), .ref (ad 5), .ref (ad 6), .ref (ad 7), .ref (ad 8), .ref (ad 9), .ref (ad 10), .ref (ad 11), .int 0, .int 0, .int 0])), ((ad 1), .inr (9, [.ref (ad 12), .ref (ad 13), .ref (ad 14)])), ((ad 14), .inl (cI, 8, .inl (fun _ => (-1)))), ((md 64), .inr (11, [.int 0, .long (sd.toInt64), .int 0, .ref (md 3), .ref (md 4), .ref (md 5), .int 0, .ref (md 7), .ref (md 8), .ref (md 9), .ref (md 10), .ref (md 11), .ref (md 12), .ref (md 13), .ref (md 14), .int 0, .ref (md 16), .ref (md 17), .int 0, .ref (md 19), .ref (md 20), .ref (md 21), .ref (md 22), .ref (md 23), .int 0, .int 0, .ref (md 26), .ref (md 27), .ref (md 28), .ref (md 29), .int 0, .ref (md 31), .int 0, .ref (md 33), .ref (md 34), .int 0, .int 0, .int 0, .int 0, .int 0, .int 0, .int 0, .int 0, .int 0, .int 0, .ref (md 45), .ref (md 46), .ref (md 47), .ref (md 48), .ref (md 49), .ref (md 50), .ref (md 51), .int 0, .ref (md 53), .ref (md 54), .ref (md 55), .ref (md 56), .int 0, .ref (md 58), .ref (md 59), .ref (md 60), .int 0, .ref (md 62), .int 0])), ((md 3), .inl (cI, 8, .inl (fun _ => (-1))))]) (hS : va_S (fun q : Nat => s.heap.size ≤ q) s.heap H locs) (hl : lv_has ls 4 [(0, .ref b), (1, .ref (ad 0)), (2, .ref (md 64)), (3, .int 1)]) : W p l e room_1 s m #[Value.ref b] below meth c H locs 107 4890 (lw_Z below #[Value.ref b] s) (F0 m 433 ls []) := by
  have C0k := C0
  obtain ⟨C1, hK, hN⟩ := C0
  obtain ⟨hx, hb, hr, hml, hown, hts0, hX, hbl, hlocks, hgv⟩ := C1
  have hA : ∀ q : Nat, s.heap.size ≤ q → (fun q : Nat => s.heap.size ≤ q) q := fun _ h => h
  have hbA : ¬ (fun q : Nat => s.heap.size ≤ q) b := Nat.not_le.mpr hbl
  have hts : ∀ w ∈ wsL_law, w.before #[Value.ref b] s = true := fun w h => hts0 w (wsL_law_in w h)
  replace hown : s.vm.findClass RL = some m.cls := hown
  replace hb : c.code = cL_law := hb
  have hLI : (Int32.ofNat 7).toInt = 7 := by decide
  refine lv_aload_n hx hb dL_law_433 rfl (lv_at hl 1 rfl) ?_
  refine lv_aload_n hx hb dL_law_434 rfl (lv_at hl 0 rfl) ?_
  refine lv_iload_n hx hb dL_law_435 rfl (lv_at hl 3 rfl) ?_
  refine lv_iconst (v := 1) hx hb dL_law_436 (by decide) ?_
  refine lv_iadd hx hb dL_law_437 ?_
  refine lv_topi (fun v1 ev1 => ?_)
  replace ev1 : v1 = 2 := ev1.trans (by decide)
  subst ev1
  refine va_sld hx hb hX hbl hbA hS (i_in (by decide) (by decide)) dL_law_438 ?_
  refine lv_aload_n hx hb dL_law_439 rfl (lv_at hl 0 rfl) ?_
  refine lv_iload_n hx hb dL_law_440 rfl (lv_at hl 3 rfl) ?_
  refine lv_iconst (v := 2) hx hb dL_law_441 (by decide) ?_
  refine lv_iadd hx hb dL_law_442 ?_
  refine lv_topi (fun v2 ev2 => ?_)
  replace ev2 : v2 = 3 := ev2.trans (by decide)
  subst ev2
  refine va_sld hx hb hX hbl hbA hS (i_in (by decide) (by decide)) dL_law_443 ?_
  refine lv_aload_n hx hb dL_law_444 rfl (lv_at hl 0 rfl) ?_
  refine lv_iload_n hx hb dL_law_445 rfl (lv_at hl 3 rfl) ?_
  refine lv_iconst (v := 3) hx hb dL_law_446 (by decide) ?_
  refine lv_iadd hx hb dL_law_447 ?_
  refine lv_topi (fun v3 ev3 => ?_)
  replace ev3 : v3 = 4 := ev3.trans (by decide)
  subst ev3
  refine va_sld hx hb hX hbl hbA hS (i_in (by decide) (by decide)) dL_law_448 ?_
  refine st_i (wr := [((md 64), .inr (11, [.int 0, .long (sd.toInt64), .int 0, .ref (md 3), .ref (md 4), .ref (md 5), .int 0, .ref (md 7), .ref (md 8), .ref (md 9), .ref (md 10), .ref (md 11), .ref (md 12), .ref (md 13), .ref (md 14), .int 0, .ref (md 16), .ref (md 17), .int 0, .ref (md 19), .ref (md 20), .ref (md 21), .ref (md 22), .ref (md 23), .int 0, .int 0, .ref (md 26), .ref (md 27), .ref (md 28), .ref (md 29), .int 0, .ref (md 31), .int 0, .ref (md 33), .ref (md 34), .int 0, .int 0, .int 0, .int 0, .int 0, .int 0, .int 0, .int 0, .int 0, .int 0, .ref (md 45), .ref (md 46), .ref (md 47), .ref (md 48), .ref (md 49), .ref (md 50), .ref (md 51), .int 0, .ref (md 53), .ref (md 54), .ref (md 55), .ref (md 56), .int 0, .ref (md 58), .ref (md 59), .ref (md 60), .int 0, .ref (md 62), .int 0])), ((md 3), .inl (cI, 8, .inl (fun _ => (-1))))]) (va_runV (C := RX10) (As := [.int (xs ((2 : Int32).toNatClampNeg)), .int (xs ((3 : Int32).toNatClampNeg)), .int (xs ((4 : Int32).toNatClampNeg))]) (rest := []) ⟨hx, hb, hml, hown, hts⟩ (ct_X10_holds l D cI cY cJ cQ _ ad (xs ((2 : Int32).toNatClampNeg)) (xs ((3 : Int32).toNatClampNeg)) (xs ((4 : Int32).toNatClampNeg))) (cwV 3 hts gL_law_X10_holds rfl rfl rfl (by decide +kernel) ⟨Nat.le_of_ble_eq_true rfl, Nat.le_of_ble_eq_true rfl⟩) (cPreV (hP.sub [0, 1, 2] rfl) hK (hD.sub [0, 1, 2] (by decide) rfl) hN (ci := 10) (q0 := 0) rfl rfl) rfl rfl hl.1 rfl (lv_room (Nat.le_of_ble_eq_true rfl)) dL_law_449 ⟨Nat.le_of_ble_eq_true rfl, Nat.le_of_ble_eq_true rfl⟩) hP hD hS hA [0, 1, 2] [3, 4] rfl rfl (by decide) (by decide) (fun r6 u4 H locs hw5 hP hD hS => ?_)
  replace hP : va_P D vwCl [((md 64), .inr (11, [.int 0, .long (sd.toInt64), .int 0, .ref (md 3), .ref (md 4), .ref (md 5), .int 0, .ref (md 7), .ref (md 8), .ref (md 9), .ref (md 10), .ref (md 11), .ref (md 12), .ref (md 13), .ref (md 14), .int 0, .ref (md 16), .ref (md 17), .int 0, .ref (md 19), .ref (md 20), .ref (md 21), .ref (md 22), .ref (md 23), .int 0, .int 0, .ref (md 26), .ref (md 27), .ref (md 28), .ref (md 29), .int 0, .ref (md 31), .int 0, .ref (md 33), .ref (md 34), .int 0, .int 0, .int 0, .int 0, .int 0, .int 0, .int 0, .int 0, .int 0, .int 0, .ref (md 45), .ref (md 46), .ref (md 47), .ref (md 48), .ref (md 49), .ref (md 50), .ref (md 51), .int 0, .ref (md 53), .ref (md 54), .ref (md 55), .ref (md 56), .int 0, .ref (md 58), .ref (md 59), .ref (md 60), .int 0, .ref (md 62), .int 0])), ((md 3), .inl (cI, 8, .inl (fun _ => (-1))))] H := hP
  replace hD : va_D (fun q : Nat => s.heap.size ≤ q) [((md 64), .inr (11, [.int 0, .long (sd.toInt64), .int 0, .ref (md 3), .ref (md 4), .ref (md 5), .int 0, .ref (md 7), .ref (md 8), .ref (md 9), .ref (md 10), .ref (md 11), .ref (md 12), .ref (md 13), .ref (md 14), .int 0, .ref (md 16), .ref (md 17), .int 0, .ref (md 19), .ref (md 20), .ref (md 21), .ref (md 22), .ref (md 23), .int 0, .int 0, .ref (md 26), .ref (md 27), .ref (md 28), .ref (md 29), .int 0, .ref (md 31), .int 0, .ref (md 33), .ref (md 34), .int 0, .int 0, .int 0, .int 0, .int 0, .int 0, .int 0, .int 0, .int 0, .int 0, .ref (md 45), .ref (md 46), .ref (md 47), .ref (md 48), .ref (md 49), .ref (md 50), .ref (md 51), .int 0, .ref (md 53), .ref (md 54), .ref (md 55), .ref (md 56), .int 0, .ref (md 58), .ref (md 59), .ref (md 60), .int 0, .ref (md 62), .int 0])), ((md 3), .inl (cI, 8, .inl (fun _ => (-1))))] := hD
  refine lv_aload_n hx hb dL_law_452 rfl (lv_at hl 2 rfl) ?_
  refine lv_aload_n hx hb dL_law_453 rfl (lv_at hl 0 rfl) ?_
  refine lv_iload_n hx hb dL_law_454 rfl (lv_at hl 3 rfl) ?_
  refine lv_iconst (v := 1) hx hb dL_law_455 (by decide) ?_
  refine lv_iadd hx hb dL_law_456 ?_
  refine lv_topi (fun v7 ev7 => ?_)
  replace ev7 : v7 = 2 := ev7.trans (by decide)
  subst ev7
  refine va_sld hx hb hX hbl hbA hS (i_in (by decide) (by decide)) dL_law_457 ?_
  refine lv_aload_n hx hb dL_law_458 rfl (lv_at hl 0 rfl) ?_
  refine lv_iload_n hx hb dL_law_459 rfl (lv_at hl 3 rfl) ?_
  refine lv_iconst (v := 2) hx hb dL_law_460 (by decide) ?_
  refine lv_iadd hx hb dL_law_461 ?_
  refine lv_topi (fun v8 ev8 => ?_)
  replace ev8 : v8 = 3 := ev8.trans (by decide)
  subst ev8
  refine va_sld hx hb hX hbl hbA hS (i_in (by decide) (by decide)) dL_law_462 ?_
  refine lv_aload_n hx hb dL_law_463 rfl (lv_at hl 0 rfl) ?_
  refine lv_iload_n hx hb dL_law_464 rfl (lv_at hl 3 rfl) ?_
  refine lv_iconst (v := 3) hx hb dL_law_465 (by decide) ?_
  refine lv_iadd hx hb dL_law_466 ?_
  refine lv_topi (fun v9 ev9 => ?_)
  replace ev9 : v9 = 4 := ev9.trans (by decide)
  subst ev9
  refine va_sld hx hb hX hbl hbA hS (i_in (by decide) (by decide)) dL_law_467 ?_
  refine st_i (wr := []) (va_runV (C := RX11) (As := [.int (xs ((2 : Int32).toNatClampNeg)), .int (xs ((3 : Int32).toNatClampNeg)), .int (xs ((4 : Int32).toNatClampNeg))]) (rest := [.int r6]) ⟨hx, hb, hml, hown, hts⟩ (ct_X11_holds l D cI cY cJ cQ _ md sd (xs ((2 : Int32).toNatClampNeg)) (xs ((3 : Int32).toNatClampNeg)) (xs ((4 : Int32).toNatClampNeg))) (cwV 3 hts gL_law_X11_holds rfl rfl rfl (by decide +kernel) ⟨Nat.le_of_ble_eq_true rfl, Nat.le_of_ble_eq_true rfl⟩) (cPreV (hP.sub [0, 1] rfl) hK (hD.sub [0, 1] (by decide) rfl) hN (ci := 11) (q0 := 0) rfl rfl) rfl rfl hl.1 rfl (lv_room (Nat.le_of_ble_eq_true rfl)) dL_law_468 ⟨Nat.le_of_ble_eq_true rfl, Nat.le_of_ble_eq_true rfl⟩) hP hD hS hA [0, 1] [] rfl rfl (by decide) (by decide) (fun r12 u10 H locs hw11 hP hD hS => ?_)
  replace hP : va_P D vwCl [] H := hP
  replace hD : va_D (fun q : Nat => s.heap.size ≤ q) [] := hD
  refine lv_icmp_eq (tgt := 1652) hx hb dL_law_471 (by decide) (fun _ => ?_) (fun c13 => by exfalso; exact c13 (hw5.trans hw11.symm))
  exact law_tail C0k hS (lv_sub hl [0, 3] rfl)

set_option maxHeartbeats 4000000 in
set_option maxRecDepth 100000 in
theorem law_case_6 {p : Program} {l : Launch} {e : Env} {s : State} {m : MethodId} {below : List Frame} {meth : Method} {c : Code} {D : va_G} {cI cY cJ cQ : ClassId} {b : Nat} {xs : Nat → Int32} {ad rw md : Nat → Nat} {sd : Int32} {H : Heap} {locs : List Loc} {ls : Array Slot} (C0 : lawC p s m meth c b xs D cI cY cJ cQ) (hP : va_P D vwCl [((ad 0), .inr (10, [.ref (ad 1), .ref (ad 2), .ref (ad 3), .ref (ad 4), .ref (ad 5), .ref (ad 6), .ref (ad 7), .ref (ad 8), .ref (ad 9), .ref (ad 10), .ref (ad 11), .int 0, .int 0, .int 0])), ((ad 2), .inr (3, [.ref (ad 23), .ref (ad 24), .ref (ad 25), .ref (ad 26), .int 0, .ref (ad 27), .ref (ad 28), .ref (ad 29), .ref (ad 30)])), ((ad 27), .inl (cI, 200, .inl (fun _ => 0))), ((ad 28), .inl (cI, 200, .inl (fun _ => 0))), ((ad 29), .inl (cI, 20, .inl (fun _ => 0))), ((ad 30), .inl (cI, 10, .inl (fun _ => 0))), ((md 64), .inr (11, [.int 0, .long (sd.toInt64), .int 0, .ref (md 3), .ref (md 4), .ref (md 5), .int 0, .ref (md 7), .ref (md 8), .ref (md 9), .ref (md 10), .ref (md 11), .ref (md 12), .ref (md 13), .ref (md 14), .int 0, .ref (md 16), .ref (md 17), .int 0, .ref (md 19), .ref (md 20), .ref (md 21), .ref (md 22), .ref (md 23), .int 0, .int 0, .ref (md 26), .ref (md 27), .ref (md 28), .ref (md 29), .int 0, .ref (md 31), .int 0, .ref (md 33), .ref (md 34), .int 0, .int 0, .int 0, .int 0, .int 0, .int 0, .int 0, .int 0, .int 0, .int 0, .ref (md 45), .ref (md 46), .ref (md 47), .ref (md 48), .ref (md 49), .ref (md 50), .ref (md 51), .int 0, .ref (md 53), .ref (md 54), .ref (md 55), .ref (md 56), .int 0, .ref (md 58), .ref (md 59), .ref (md 60), .int 0, .ref (md 62), .int 0]))] H) (hD : va_D (fun q : Nat => s.heap.size ≤ q) [((ad 0), .inr (10, [.ref (ad 1), .ref (ad 2), .ref (ad 3), .ref (ad 4), .ref (ad 5), .ref (ad 6), .ref (ad 7), .ref (ad 8), .ref (ad 9), .ref (ad 10), .ref (ad 11), .int 0, .int 0, .int 0])), ((ad 2), .inr (3, [.ref (ad 23), .ref (ad 24), .ref (ad 25), .ref (ad 26), .int 0, .ref (ad 27), .ref (ad 28), .ref (ad 29), .ref (ad 30)])), ((ad 27), .inl (cI, 200, .inl (fun _ => 0))), ((ad 28), .inl (cI, 200, .inl (fun _ => 0))), ((ad 29), .inl (cI, 20, .inl (fun _ => 0))), ((ad 30), .inl (cI, 10, .inl (fun _ => 0))), ((md 64), .inr (11, [.int 0, .long (sd.toInt64), .int 0, .ref (md 3), .ref (md 4), .ref (md 5), .int 0, .ref (md 7), .ref (md 8), .ref (md 9), .ref (md 10), .ref (md 11), .ref (md 12), .ref (md 13), .ref (md 14), .int 0, .ref (md 16), .ref (md 17), .int 0, .ref (md 19), .ref (md 20), .ref (md 21), .ref (md 22), .ref (md 23), .int 0, .int 0, .ref (md 26), .ref (md 27), .ref (md 28), .ref (md 29), .int 0, .ref (md 31), .int 0, .ref (md 33), .ref (md 34), .int 0, .int 0, .int 0, .int 0, .int 0, .int 0, .int 0, .int 0, .int 0, .int 0, .ref (md 45), .ref (md 46), .ref (md 47), .ref (md 48), .ref (md 49), .ref (md 50), .ref (md 51), .int 0, .ref (md 53), .ref (md 54), .ref (md 55), .ref (md 56), .int 0, .ref (md 58), .ref (md 59), .ref (md 60), .int 0, .ref (md 62), .int 0]))]) (hS : va_S (fun q : Nat => s.heap.size ≤ q) s.heap H locs) (hl : lv_has ls 4 [(0, .ref b), (1, .ref (ad 0)), (2, .ref (md 64)), (3, .int 1)]) : W p l e room_1 s m #[Value.ref b] below meth c H locs 107 4890 (lw_Z below #[Value.ref b] s) (F0 m 476 ls []) := by
  have C0k := C0
  obtain ⟨C1, hK, hN⟩ := C0
  obtain ⟨hx, hb, hr, hml, hown, hts0, hX, hbl, hlocks, hgv⟩ := C1
  have hA : ∀ q : Nat, s.heap.size ≤ q → (fun q : Nat => s.heap.size ≤ q) q := fun _ h => h
  have hbA : ¬ (fun q : Nat => s.heap.size ≤ q) b := Nat.not_le.mpr hbl
  have hts : ∀ w ∈ wsL_law, w.before #[Value.ref b] s = true := fun w h => hts0 w (wsL_law_in w h)
  replace hown : s.vm.findClass RL = some m.cls := hown
  replace hb : c.code = cL_law := hb
  have hLI : (Int32.ofNat 7).toInt = 7 := by decide
  refine lv_aload_n hx hb dL_law_476 rfl (lv_at hl 1 rfl) ?_
  refine lv_aload_n hx hb dL_law_477 rfl (lv_at hl 0 rfl) ?_
  refine lv_iload_n hx hb dL_law_478 rfl (lv_at hl 3 rfl) ?_
  refine lv_iconst (v := 1) hx hb dL_law_479 (by decide) ?_
  refine lv_iadd hx hb dL_law_480 ?_
  refine lv_topi (fun v1 ev1 => ?_)
  replace ev1 : v1 = 2 := ev1.trans (by decide)
  subst ev1
  refine va_sld hx hb hX hbl hbA hS (i_in (by decide) (by decide)) dL_law_481 ?_
  refine lv_aload_n hx hb dL_law_482 rfl (lv_at hl 0 rfl) ?_
  refine lv_iload_n hx hb dL_law_483 rfl (lv_at hl 3 rfl) ?_
  refine lv_iconst (v := 2) hx hb dL_law_484 (by decide) ?_
  refine lv_iadd hx hb dL_law_485 ?_
  refine lv_topi (fun v2 ev2 => ?_)
  replace ev2 : v2 = 3 := ev2.trans (by decide)
  subst ev2
  refine va_sld hx hb hX hbl hbA hS (i_in (by decide) (by decide)) dL_law_486 ?_
  refine lv_aload_n hx hb dL_law_487 rfl (lv_at hl 0 rfl) ?_
  refine lv_iload_n hx hb dL_law_488 rfl (lv_at hl 3 rfl) ?_
  refine lv_iconst (v := 3) hx hb dL_law_489 (by decide) ?_
  refine lv_iadd hx hb dL_law_490 ?_
  refine lv_topi (fun v3 ev3 => ?_)
  replace ev3 : v3 = 4 := ev3.trans (by decide)
  subst ev3
  refine va_sld hx hb hX hbl hbA hS (i_in (by decide) (by decide)) dL_law_491 ?_
  refine st_i (wr := [((md 64), .inr (11, [.int 0, .long (sd.toInt64), .int 0, .ref (md 3), .ref (md 4), .ref (md 5), .int 0, .ref (md 7), .ref (md 8), .ref (md 9), .ref (md 10), .ref (md 11), .ref (md 12), .ref (md 13), .ref (md 14), .int 0, .ref (md 16), .ref (md 17), .int 0, .ref (md 19), .ref (md 20), .ref (md 21), .ref (md 22), .ref (md 23), .int 0, .int 0, .ref (md 26), .ref (md 27), .ref (md 28), .ref (md 29), .int 0, .ref (md 31), .int 0, .ref (md 33), .ref (md 34), .int 0, .int 0, .int 0, .int 0, .int 0, .int 0, .int 0, .int 0, .int 0, .int 0, .ref (md 45), .ref (md 46), .ref (md 47), .ref (md 48), .ref (md 49), .ref (md 50), .ref (md 51), .int 0, .ref (md 53), .ref (md 54), .ref (md 55), .ref (md 56), .int 0, .ref (md 58), .ref (md 59), .ref (md 60), .int 0, .ref (md 62), .int 0]))]) (va_runV (C := RX10) (As := [.int (xs ((2 : Int32).toNatClampNeg)), .int (xs ((3 : Int32).toNatClampNeg)), .int (xs ((4 : Int32).toNatClampNeg))]) (rest := []) ⟨hx, hb, hml, hown, hts⟩ (ct_X10_percent l D cI cY cJ cQ _ ad (xs ((2 : Int32).toNatClampNeg)) (xs ((3 : Int32).toNatClampNeg)) (xs ((4 : Int32).toNatClampNeg))) (cwV 3 hts gL_law_X10_percent rfl rfl rfl (by decide +kernel) ⟨Nat.le_of_ble_eq_true rfl, Nat.le_of_ble_eq_true rfl⟩) (cPreV (hP.sub [0, 1, 2, 3, 4, 5] rfl) hK (hD.sub [0, 1, 2, 3, 4, 5] (by decide) rfl) hN (ci := 10) (q0 := 0) rfl rfl) rfl rfl hl.1 rfl (lv_room (Nat.le_of_ble_eq_true rfl)) dL_law_492 ⟨Nat.le_of_ble_eq_true rfl, Nat.le_of_ble_eq_true rfl⟩) hP hD hS hA [0, 1, 2, 3, 4, 5] [6] rfl rfl (by decide) (by decide) (fun r6 u4 H locs hw5 hP hD hS => ?_)
  replace hP : va_P D vwCl [((md 64), .inr (11, [.int 0, .long (sd.toInt64), .int 0, .ref (md 3), .ref (md 4), .ref (md 5), .int 0, .ref (md 7), .ref (md 8), .ref (md 9), .ref (md 10), .ref (md 11), .ref (md 12), .ref (md 13), .ref (md 14), .int 0, .ref (md 16), .ref (md 17), .int 0, .ref (md 19), .ref (md 20), .ref (md 21), .ref (md 22), .ref (md 23), .int 0, .int 0, .ref (md 26), .ref (md 27), .ref (md 28), .ref (md 29), .int 0, .ref (md 31), .int 0, .ref (md 33), .ref (md 34), .int 0, .int 0, .int 0, .int 0, .int 0, .int 0, .int 0, .int 0, .int 0, .int 0, .ref (md 45), .ref (md 46), .ref (md 47), .ref (md 48), .ref (md 49), .ref (md 50), .ref (md 51), .int 0, .ref (md 53), .ref (md 54), .ref (md 55), .ref (md 56), .int 0, .ref (md 58), .ref (md 59), .ref (md 60), .int 0, .ref (md 62), .int 0]))] H := hP
  replace hD : va_D (fun q : Nat => s.heap.size ≤ q) [((md 64), .inr (11, [.int 0, .long (sd.toInt64), .int 0, .ref (md 3), .ref (md 4), .ref (md 5), .int 0, .ref (md 7), .ref (md 8), .ref (md 9), .ref (md 10), .ref (md 11), .ref (md 12), .ref (md 13), .ref (md 14), .int 0, .ref (md 16), .ref (md 17), .int 0, .ref (md 19), .ref (md 20), .ref (md 21), .ref (md 22), .ref (md 23), .int 0, .int 0, .ref (md 26), .ref (md 27), .ref (md 28), .ref (md 29), .int 0, .ref (md 31), .int 0, .ref (md 33), .ref (md 34), .int 0, .int 0, .int 0, .int 0, .int 0, .int 0, .int 0, .int 0, .int 0, .int 0, .ref (md 45), .ref (md 46), .ref (md 47), .ref (md 48), .ref (md 49), .ref (md 50), .ref (md 51), .int 0, .ref (md 53), .ref (md 54), .ref (md 55), .ref (md 56), .int 0, .ref (md 58), .ref (md 59), .ref (md 60), .int 0, .ref (md 62), .int 0]))] := hD
  refine lv_aload_n hx hb dL_law_495 rfl (lv_at hl 2 rfl) ?_
  refine lv_aload_n hx hb dL_law_496 rfl (lv_at hl 0 rfl) ?_
  refine lv_iload_n hx hb dL_law_497 rfl (lv_at hl 3 rfl) ?_
  refine lv_iconst (v := 1) hx hb dL_law_498 (by decide) ?_
  refine lv_iadd hx hb dL_law_499 ?_
  refine lv_topi (fun v7 ev7 => ?_)
  replace ev7 : v7 = 2 := ev7.trans (by decide)
  subst ev7
  refine va_sld hx hb hX hbl hbA hS (i_in (by decide) (by decide)) dL_law_500 ?_
  refine lv_aload_n hx hb dL_law_501 rfl (lv_at hl 0 rfl) ?_
  refine lv_iload_n hx hb dL_law_502 rfl (lv_at hl 3 rfl) ?_
  refine lv_iconst (v := 2) hx hb dL_law_503 (by decide) ?_
  refine lv_iadd hx hb dL_law_504 ?_
  refine lv_topi (fun v8 ev8 => ?_)
  replace ev8 : v8 = 3 := ev8.trans (by decide)
  subst ev8
  refine va_sld hx hb hX hbl hbA hS (i_in (by decide) (by decide)) dL_law_505 ?_
  refine lv_aload_n hx hb dL_law_506 rfl (lv_at hl 0 rfl) ?_
  refine lv_iload_n hx hb dL_law_507 rfl (lv_at hl 3 rfl) ?_
  refine lv_iconst (v := 3) hx hb dL_law_508 (by decide) ?_
  refine lv_iadd hx hb dL_law_509 ?_
  refine lv_topi (fun v9 ev9 => ?_)
  replace ev9 : v9 = 4 := ev9.trans (by decide)
  subst ev9
  refine va_sld hx hb hX hbl hbA hS (i_in (by decide) (by decide)) dL_law_510 ?_
  refine st_i (wr := []) (va_runV (C := RX11) (As := [.int (xs ((2 : Int32).toNatClampNeg)), .int (xs ((3 : Int32).toNatClampNeg)), .int (xs ((4 : Int32).toNatClampNeg))]) (rest := [.int r6]) ⟨hx, hb, hml, hown, hts⟩ (ct_X11_percent l D cI cY cJ cQ _ md sd (xs ((2 : Int32).toNatClampNeg)) (xs ((3 : Int32).toNatClampNeg)) (xs ((4 : Int32).toNatClampNeg))) (cwV 3 hts gL_law_X11_percent rfl rfl rfl (by decide +kernel) ⟨Nat.le_of_ble_eq_true rfl, Nat.le_of_ble_eq_true rfl⟩) (cPreV (hP.sub [0] rfl) hK (hD.sub [0] (by decide) rfl) hN (ci := 11) (q0 := 0) rfl rfl) rfl rfl hl.1 rfl (lv_room (Nat.le_of_ble_eq_true rfl)) dL_law_511 ⟨Nat.le_of_ble_eq_true rfl, Nat.le_of_ble_eq_true rfl⟩) hP hD hS hA [0] [] rfl rfl (by decide) (by decide) (fun r12 u10 H locs hw11 hP hD hS => ?_)
  replace hP : va_P D vwCl [] H := hP
  replace hD : va_D (fun q : Nat => s.heap.size ≤ q) [] := hD
  refine lv_icmp_eq (tgt := 1652) hx hb dL_law_514 (by decide) (fun _ => ?_) (fun c13 => by exfalso; exact c13 (hw5.trans hw11.symm))
  exact law_tail C0k hS (lv_sub hl [0, 3] rfl)

set_option maxHeartbeats 4000000 in
set_option maxRecDepth 100000 in
theorem law_case_7 {p : Program} {l : Launch} {e : Env} {s : State} {m : MethodId} {below : List Frame} {meth : Method} {c : Code} {D : va_G} {cI cY cJ cQ : ClassId} {b : Nat} {xs : Nat → Int32} {ad rw md : Nat → Nat} {sd : Int32} {H : Heap} {locs : List Loc} {ls : Array Slot} (C0 : lawC p s m meth c b xs D cI cY cJ cQ) (hP : va_P D vwCl [((ad 0), .inr (10, [.ref (ad 1), .ref (ad 2), .ref (ad 3), .ref (ad 4), .ref (ad 5), .ref (ad 6), .ref (ad 7), .ref (ad 8), .ref (ad 9), .ref (ad 10), .ref (ad 11), .int 0, .int 0, .int 0])), ((ad 2), .inr (3, [.ref (ad 23), .ref (ad 24), .ref (ad 25), .ref (ad 26), .int 0, .ref (ad 27), .ref (ad 28), .ref (ad 29), .ref (ad 30)])), ((ad 27), .inl (cI, 200, .inl (fun _ => 0))), ((ad 28), .inl (cI, 200, .inl (fun _ => 0))), ((ad 29), .inl (cI, 20, .inl (fun _ => 0))), ((ad 30), .inl (cI, 10, .inl (fun _ => 0))), ((md 64), .inr (11, [.int 0, .long (sd.toInt64), .int 0, .ref (md 3), .ref (md 4), .ref (md 5), .int 0, .ref (md 7), .ref (md 8), .ref (md 9), .ref (md 10), .ref (md 11), .ref (md 12), .ref (md 13), .ref (md 14), .int 0, .ref (md 16), .ref (md 17), .int 0, .ref (md 19), .ref (md 20), .ref (md 21), .ref (md 22), .ref (md 23), .int 0, .int 0, .ref (md 26), .ref (md 27), .ref (md 28), .ref (md 29), .int 0, .ref (md 31), .int 0, .ref (md 33), .ref (md 34), .int 0, .int 0, .int 0, .int 0, .int 0, .int 0, .int 0, .int 0, .int 0, .int 0, .ref (md 45), .ref (md 46), .ref (md 47), .ref (md 48), .ref (md 49), .ref (md 50), .ref (md 51), .int 0, .ref (md 53), .ref (md 54), .ref (md 55), .ref (md 56), .int 0, .ref (md 58), .ref (md 59), .ref (md 60), .int 0, .ref (md 62), .int 0])), ((md 11), .inl (cI, 200, .inl (fun _ => 0))), ((md 12), .inl (cI, 12, .inl (fun _ => 0))), ((md 13), .inl (cI, 12, .inl (fun _ => 0))), ((md 14), .inl (cJ, 12, .inr (.inl (fun _ => 0))))] H) (hD : va_D (fun q : Nat => s.heap.size ≤ q) [((ad 0), .inr (10, [.ref (ad 1), .ref (ad 2), .ref (ad 3), .ref (ad 4), .ref (ad 5), .ref (ad 6), .ref (ad 7), .ref (ad 8), .ref (ad 9), .ref (ad 10), .ref (ad 11), .int 0, .int 0, .int 0])), ((ad 2), .inr (3, [.ref (ad 23), .ref (ad 24), .ref (ad 25), .ref (ad 26), .int 0, .ref (ad 27), .ref (ad 28), .ref (ad 29), .ref (ad 30)])), ((ad 27), .inl (cI, 200, .inl (fun _ => 0))), ((ad 28), .inl (cI, 200, .inl (fun _ => 0))), ((ad 29), .inl (cI, 20, .inl (fun _ => 0))), ((ad 30), .inl (cI, 10, .inl (fun _ => 0))), ((md 64), .inr (11, [.int 0, .long (sd.toInt64), .int 0, .ref (md 3), .ref (md 4), .ref (md 5), .int 0, .ref (md 7), .ref (md 8), .ref (md 9), .ref (md 10), .ref (md 11), .ref (md 12), .ref (md 13), .ref (md 14), .int 0, .ref (md 16), .ref (md 17), .int 0, .ref (md 19), .ref (md 20), .ref (md 21), .ref (md 22), .ref (md 23), .int 0, .int 0, .ref (md 26), .ref (md 27), .ref (md 28), .ref (md 29), .int 0, .ref (md 31), .int 0, .ref (md 33), .ref (md 34), .int 0, .int 0, .int 0, .int 0, .int 0, .int 0, .int 0, .int 0, .int 0, .int 0, .ref (md 45), .ref (md 46), .ref (md 47), .ref (md 48), .ref (md 49), .ref (md 50), .ref (md 51), .int 0, .ref (md 53), .ref (md 54), .ref (md 55), .ref (md 56), .int 0, .ref (md 58), .ref (md 59), .ref (md 60), .int 0, .ref (md 62), .int 0])), ((md 11), .inl (cI, 200, .inl (fun _ => 0))), ((md 12), .inl (cI, 12, .inl (fun _ => 0))), ((md 13), .inl (cI, 12, .inl (fun _ => 0))), ((md 14), .inl (cJ, 12, .inr (.inl (fun _ => 0))))]) (hS : va_S (fun q : Nat => s.heap.size ≤ q) s.heap H locs) (hl : lv_has ls 4 [(0, .ref b), (1, .ref (ad 0)), (2, .ref (md 64)), (3, .int 1)]) : W p l e room_1 s m #[Value.ref b] below meth c H locs 107 4890 (lw_Z below #[Value.ref b] s) (F0 m 519 ls []) := by
  have C0k := C0
  obtain ⟨C1, hK, hN⟩ := C0
  obtain ⟨hx, hb, hr, hml, hown, hts0, hX, hbl, hlocks, hgv⟩ := C1
  have hA : ∀ q : Nat, s.heap.size ≤ q → (fun q : Nat => s.heap.size ≤ q) q := fun _ h => h
  have hbA : ¬ (fun q : Nat => s.heap.size ≤ q) b := Nat.not_le.mpr hbl
  have hts : ∀ w ∈ wsL_law, w.before #[Value.ref b] s = true := fun w h => hts0 w (wsL_law_in w h)
  replace hown : s.vm.findClass RL = some m.cls := hown
  replace hb : c.code = cL_law := hb
  have hLI : (Int32.ofNat 7).toInt = 7 := by decide
  refine lv_aload_n hx hb dL_law_519 rfl (lv_at hl 1 rfl) ?_
  refine lv_aload_n hx hb dL_law_520 rfl (lv_at hl 0 rfl) ?_
  refine lv_iload_n hx hb dL_law_521 rfl (lv_at hl 3 rfl) ?_
  refine lv_iconst (v := 1) hx hb dL_law_522 (by decide) ?_
  refine lv_iadd hx hb dL_law_523 ?_
  refine lv_topi (fun v1 ev1 => ?_)
  replace ev1 : v1 = 2 := ev1.trans (by decide)
  subst ev1
  refine va_sld hx hb hX hbl hbA hS (i_in (by decide) (by decide)) dL_law_524 ?_
  refine lv_aload_n hx hb dL_law_525 rfl (lv_at hl 0 rfl) ?_
  refine lv_iload_n hx hb dL_law_526 rfl (lv_at hl 3 rfl) ?_
  refine lv_iconst (v := 2) hx hb dL_law_527 (by decide) ?_
  refine lv_iadd hx hb dL_law_528 ?_
  refine lv_topi (fun v2 ev2 => ?_)
  replace ev2 : v2 = 3 := ev2.trans (by decide)
  subst ev2
  refine va_sld hx hb hX hbl hbA hS (i_in (by decide) (by decide)) dL_law_529 ?_
  refine lv_aload_n hx hb dL_law_530 rfl (lv_at hl 0 rfl) ?_
  refine lv_iload_n hx hb dL_law_531 rfl (lv_at hl 3 rfl) ?_
  refine lv_iconst (v := 3) hx hb dL_law_532 (by decide) ?_
  refine lv_iadd hx hb dL_law_533 ?_
  refine lv_topi (fun v3 ev3 => ?_)
  replace ev3 : v3 = 4 := ev3.trans (by decide)
  subst ev3
  refine va_sld hx hb hX hbl hbA hS (i_in (by decide) (by decide)) dL_law_534 ?_
  refine st_i (wr := [((md 64), .inr (11, [.int 0, .long (sd.toInt64), .int 0, .ref (md 3), .ref (md 4), .ref (md 5), .int 0, .ref (md 7), .ref (md 8), .ref (md 9), .ref (md 10), .ref (md 11), .ref (md 12), .ref (md 13), .ref (md 14), .int 0, .ref (md 16), .ref (md 17), .int 0, .ref (md 19), .ref (md 20), .ref (md 21), .ref (md 22), .ref (md 23), .int 0, .int 0, .ref (md 26), .ref (md 27), .ref (md 28), .ref (md 29), .int 0, .ref (md 31), .int 0, .ref (md 33), .ref (md 34), .int 0, .int 0, .int 0, .int 0, .int 0, .int 0, .int 0, .int 0, .int 0, .int 0, .ref (md 45), .ref (md 46), .ref (md 47), .ref (md 48), .ref (md 49), .ref (md 50), .ref (md 51), .int 0, .ref (md 53), .ref (md 54), .ref (md 55), .ref (md 56), .int 0, .ref (md 58), .ref (md 59), .ref (md 60), .int 0, .ref (md 62), .int 0])), ((md 11), .inl (cI, 200, .inl (fun _ => 0))), ((md 12), .inl (cI, 12, .inl (fun _ => 0))), ((md 13), .inl (cI, 12, .inl (fun _ => 0))), ((md 14), .inl (cJ, 12, .inr (.inl (fun _ => 0))))]) (va_runV (C := RX10) (As := [.int (xs ((2 : Int32).toNatClampNeg)), .int (xs ((3 : Int32).toNatClampNeg)), .int (xs ((4 : Int32).toNatClampNeg))]) (rest := []) ⟨hx, hb, hml, hown, hts⟩ (ct_X10_share l D cI cY cJ cQ _ ad (xs ((2 : Int32).toNatClampNeg)) (xs ((3 : Int32).toNatClampNeg)) (xs ((4 : Int32).toNatClampNeg))) (cwV 3 hts gL_law_X10_share rfl rfl rfl (by decide +kernel) ⟨Nat.le_of_ble_eq_true rfl, Nat.le_of_ble_eq_true rfl⟩) (cPreV (hP.sub [0, 1, 2, 3, 4, 5] rfl) hK (hD.sub [0, 1, 2, 3, 4, 5] (by decide) rfl) hN (ci := 10) (q0 := 0) rfl rfl) rfl rfl hl.1 rfl (lv_room (Nat.le_of_ble_eq_true rfl)) dL_law_535 ⟨Nat.le_of_ble_eq_true rfl, Nat.le_of_ble_eq_true rfl⟩) hP hD hS hA [0, 1, 2, 3, 4, 5] [6, 7, 8, 9, 10] rfl rfl (by decide) (by decide) (fun r6 u4 H locs hw5 hP hD hS => ?_)
  replace hP : va_P D vwCl [((md 64), .inr (11, [.int 0, .long (sd.toInt64), .int 0, .ref (md 3), .ref (md 4), .ref (md 5), .int 0, .ref (md 7), .ref (md 8), .ref (md 9), .ref (md 10), .ref (md 11), .ref (md 12), .ref (md 13), .ref (md 14), .int 0, .ref (md 16), .ref (md 17), .int 0, .ref (md 19), .ref (md 20), .ref (md 21), .ref (md 22), .ref (md 23), .int 0, .int 0, .ref (md 26), .ref (md 27), .ref (md 28), .ref (md 29), .int 0, .ref (md 31), .int 0, .ref (md 33), .ref (md 34), .int 0, .int 0, .int 0, .int 0, .int 0, .int 0, .int 0, .int 0, .int 0, .int 0, .ref (md 45), .ref (md 46), .ref (md 47), .ref (md 48), .ref (md 49), .ref (md 50), .ref (md 51), .int 0, .ref (md 53), .ref (md 54), .ref (md 55), .ref (md 56), .int 0, .ref (md 58), .ref (md 59), .ref (md 60), .int 0, .ref (md 62), .int 0])), ((md 11), .inl (cI, 200, .inl (fun _ => 0))), ((md 12), .inl (cI, 12, .inl (fun _ => 0))), ((md 13), .inl (cI, 12, .inl (fun _ => 0))), ((md 14), .inl (cJ, 12, .inr (.inl (fun _ => 0))))] H := hP
  replace hD : va_D (fun q : Nat => s.heap.size ≤ q) [((md 64), .inr (11, [.int 0, .long (sd.toInt64), .int 0, .ref (md 3), .ref (md 4), .ref (md 5), .int 0, .ref (md 7), .ref (md 8), .ref (md 9), .ref (md 10), .ref (md 11), .ref (md 12), .ref (md 13), .ref (md 14), .int 0, .ref (md 16), .ref (md 17), .int 0, .ref (md 19), .ref (md 20), .ref (md 21), .ref (md 22), .ref (md 23), .int 0, .int 0, .ref (md 26), .ref (md 27), .ref (md 28), .ref (md 29), .int 0, .ref (md 31), .int 0, .ref (md 33), .ref (md 34), .int 0, .int 0, .int 0, .int 0, .int 0, .int 0, .int 0, .int 0, .int 0, .int 0, .ref (md 45), .ref (md 46), .ref (md 47), .ref (md 48), .ref (md 49), .ref (md 50), .ref (md 51), .int 0, .ref (md 53), .ref (md 54), .ref (md 55), .ref (md 56), .int 0, .ref (md 58), .ref (md 59), .ref (md 60), .int 0, .ref (md 62), .int 0])), ((md 11), .inl (cI, 200, .inl (fun _ => 0))), ((md 12), .inl (cI, 12, .inl (fun _ => 0))), ((md 13), .inl (cI, 12, .inl (fun _ => 0))), ((md 14), .inl (cJ, 12, .inr (.inl (fun _ => 0))))] := hD
  refine lv_aload_n hx hb dL_law_538 rfl (lv_at hl 2 rfl) ?_
  refine lv_aload_n hx hb dL_law_539 rfl (lv_at hl 0 rfl) ?_
  refine lv_iload_n hx hb dL_law_540 rfl (lv_at hl 3 rfl) ?_
  refine lv_iconst (v := 1) hx hb dL_law_541 (by decide) ?_
  refine lv_iadd hx hb dL_law_542 ?_
  refine lv_topi (fun v7 ev7 => ?_)
  replace ev7 : v7 = 2 := ev7.trans (by decide)
  subst ev7
  refine va_sld hx hb hX hbl hbA hS (i_in (by decide) (by decide)) dL_law_543 ?_
  refine lv_aload_n hx hb dL_law_544 rfl (lv_at hl 0 rfl) ?_
  refine lv_iload_n hx hb dL_law_545 rfl (lv_at hl 3 rfl) ?_
  refine lv_iconst (v := 2) hx hb dL_law_546 (by decide) ?_
  refine lv_iadd hx hb dL_law_547 ?_
  refine lv_topi (fun v8 ev8 => ?_)
  replace ev8 : v8 = 3 := ev8.trans (by decide)
  subst ev8
  refine va_sld hx hb hX hbl hbA hS (i_in (by decide) (by decide)) dL_law_548 ?_
  refine lv_aload_n hx hb dL_law_549 rfl (lv_at hl 0 rfl) ?_
  refine lv_iload_n hx hb dL_law_550 rfl (lv_at hl 3 rfl) ?_
  refine lv_iconst (v := 3) hx hb dL_law_551 (by decide) ?_
  refine lv_iadd hx hb dL_law_552 ?_
  refine lv_topi (fun v9 ev9 => ?_)
  replace ev9 : v9 = 4 := ev9.trans (by decide)
  subst ev9
  refine va_sld hx hb hX hbl hbA hS (i_in (by decide) (by decide)) dL_law_553 ?_
  refine st_i (wr := []) (va_runV (C := RX11) (As := [.int (xs ((2 : Int32).toNatClampNeg)), .int (xs ((3 : Int32).toNatClampNeg)), .int (xs ((4 : Int32).toNatClampNeg))]) (rest := [.int r6]) ⟨hx, hb, hml, hown, hts⟩ (ct_X11_share l D cI cY cJ cQ _ md sd (xs ((2 : Int32).toNatClampNeg)) (xs ((3 : Int32).toNatClampNeg)) (xs ((4 : Int32).toNatClampNeg)) (fun _ => 0) (fun _ => 0) (fun _ => 0)) (cwV 3 hts gL_law_X11_share rfl rfl rfl (by decide +kernel) ⟨Nat.le_of_ble_eq_true rfl, Nat.le_of_ble_eq_true rfl⟩) (cPreV (hP.sub [0, 1, 2, 3, 4] rfl) hK (hD.sub [0, 1, 2, 3, 4] (by decide) rfl) hN (ci := 11) (q0 := 0) rfl rfl) rfl rfl hl.1 rfl (lv_room (Nat.le_of_ble_eq_true rfl)) dL_law_554 ⟨Nat.le_of_ble_eq_true rfl, Nat.le_of_ble_eq_true rfl⟩) hP hD hS hA [0, 1, 2, 3, 4] [] rfl rfl (by decide) (by decide) (fun r12 u10 H locs hw11 hP hD hS => ?_)
  replace hP : va_P D vwCl [] H := hP
  replace hD : va_D (fun q : Nat => s.heap.size ≤ q) [] := hD
  refine lv_icmp_eq (tgt := 1652) hx hb dL_law_557 (by decide) (fun _ => ?_) (fun c13 => by exfalso; exact c13 (hw5.trans hw11.symm))
  exact law_tail C0k hS (lv_sub hl [0, 3] rfl)

set_option maxHeartbeats 4000000 in
set_option maxRecDepth 100000 in
theorem law_case_8 {p : Program} {l : Launch} {e : Env} {s : State} {m : MethodId} {below : List Frame} {meth : Method} {c : Code} {D : va_G} {cI cY cJ cQ : ClassId} {b : Nat} {xs : Nat → Int32} {ad rw md : Nat → Nat} {sd : Int32} {H : Heap} {locs : List Loc} {ls : Array Slot} (C0 : lawC p s m meth c b xs D cI cY cJ cQ) (hP : va_P D vwCl [((ad 0), .inr (10, [.ref (ad 1), .ref (ad 2), .ref (ad 3), .ref (ad 4), .ref (ad 5), .ref (ad 6), .ref (ad 7), .ref (ad 8), .ref (ad 9), .ref (ad 10), .ref (ad 11), .int 0, .int 0, .int 0])), ((ad 2), .inr (3, [.ref (ad 23), .ref (ad 24), .ref (ad 25), .ref (ad 26), .int 0, .ref (ad 27), .ref (ad 28), .ref (ad 29), .ref (ad 30)])), ((ad 27), .inl (cI, 200, .inl (fun _ => 0))), ((ad 28), .inl (cI, 200, .inl (fun _ => 0))), ((ad 29), .inl (cI, 20, .inl (fun _ => 0))), ((ad 30), .inl (cI, 10, .inl (fun _ => 0))), ((md 64), .inr (11, [.int 0, .long (sd.toInt64), .int 0, .ref (md 3), .ref (md 4), .ref (md 5), .int 0, .ref (md 7), .ref (md 8), .ref (md 9), .ref (md 10), .ref (md 11), .ref (md 12), .ref (md 13), .ref (md 14), .int 0, .ref (md 16), .ref (md 17), .int 0, .ref (md 19), .ref (md 20), .ref (md 21), .ref (md 22), .ref (md 23), .int 0, .int 0, .ref (md 26), .ref (md 27), .ref (md 28), .ref (md 29), .int 0, .ref (md 31), .int 0, .ref (md 33), .ref (md 34), .int 0, .int 0, .int 0, .int 0, .int 0, .int 0, .int 0, .int 0, .int 0, .int 0, .ref (md 45), .ref (md 46), .ref (md 47), .ref (md 48), .ref (md 49), .ref (md 50), .ref (md 51), .int 0, .ref (md 53), .ref (md 54), .ref (md 55), .ref (md 56), .int 0, .ref (md 58), .ref (md 59), .ref (md 60), .int 0, .ref (md 62), .int 0])), ((md 11), .inl (cI, 200, .inl (fun _ => 0))), ((md 12), .inl (cI, 12, .inl (fun _ => 0))), ((md 13), .inl (cI, 12, .inl (fun _ => 0))), ((md 14), .inl (cJ, 12, .inr (.inl (fun _ => 0))))] H) (hD : va_D (fun q : Nat => s.heap.size ≤ q) [((ad 0), .inr (10, [.ref (ad 1), .ref (ad 2), .ref (ad 3), .ref (ad 4), .ref (ad 5), .ref (ad 6), .ref (ad 7), .ref (ad 8), .ref (ad 9), .ref (ad 10), .ref (ad 11), .int 0, .int 0, .int 0])), ((ad 2), .inr (3, [.ref (ad 23), .ref (ad 24), .ref (ad 25), .ref (ad 26), .int 0, .ref (ad 27), .ref (ad 28), .ref (ad 29), .ref (ad 30)])), ((ad 27), .inl (cI, 200, .inl (fun _ => 0))), ((ad 28), .inl (cI, 200, .inl (fun _ => 0))), ((ad 29), .inl (cI, 20, .inl (fun _ => 0))), ((ad 30), .inl (cI, 10, .inl (fun _ => 0))), ((md 64), .inr (11, [.int 0, .long (sd.toInt64), .int 0, .ref (md 3), .ref (md 4), .ref (md 5), .int 0, .ref (md 7), .ref (md 8), .ref (md 9), .ref (md 10), .ref (md 11), .ref (md 12), .ref (md 13), .ref (md 14), .int 0, .ref (md 16), .ref (md 17), .int 0, .ref (md 19), .ref (md 20), .ref (md 21), .ref (md 22), .ref (md 23), .int 0, .int 0, .ref (md 26), .ref (md 27), .ref (md 28), .ref (md 29), .int 0, .ref (md 31), .int 0, .ref (md 33), .ref (md 34), .int 0, .int 0, .int 0, .int 0, .int 0, .int 0, .int 0, .int 0, .int 0, .int 0, .ref (md 45), .ref (md 46), .ref (md 47), .ref (md 48), .ref (md 49), .ref (md 50), .ref (md 51), .int 0, .ref (md 53), .ref (md 54), .ref (md 55), .ref (md 56), .int 0, .ref (md 58), .ref (md 59), .ref (md 60), .int 0, .ref (md 62), .int 0])), ((md 11), .inl (cI, 200, .inl (fun _ => 0))), ((md 12), .inl (cI, 12, .inl (fun _ => 0))), ((md 13), .inl (cI, 12, .inl (fun _ => 0))), ((md 14), .inl (cJ, 12, .inr (.inl (fun _ => 0))))]) (hS : va_S (fun q : Nat => s.heap.size ≤ q) s.heap H locs) (hl : lv_has ls 4 [(0, .ref b), (1, .ref (ad 0)), (2, .ref (md 64)), (3, .int 1)]) : W p l e room_1 s m #[Value.ref b] below meth c H locs 107 4890 (lw_Z below #[Value.ref b] s) (F0 m 562 ls []) := by
  have C0k := C0
  obtain ⟨C1, hK, hN⟩ := C0
  obtain ⟨hx, hb, hr, hml, hown, hts0, hX, hbl, hlocks, hgv⟩ := C1
  have hA : ∀ q : Nat, s.heap.size ≤ q → (fun q : Nat => s.heap.size ≤ q) q := fun _ h => h
  have hbA : ¬ (fun q : Nat => s.heap.size ≤ q) b := Nat.not_le.mpr hbl
  have hts : ∀ w ∈ wsL_law, w.before #[Value.ref b] s = true := fun w h => hts0 w (wsL_law_in w h)
  replace hown : s.vm.findClass RL = some m.cls := hown
  replace hb : c.code = cL_law := hb
  have hLI : (Int32.ofNat 7).toInt = 7 := by decide
  refine lv_aload_n hx hb dL_law_562 rfl (lv_at hl 1 rfl) ?_
  refine lv_aload_n hx hb dL_law_563 rfl (lv_at hl 0 rfl) ?_
  refine lv_iload_n hx hb dL_law_564 rfl (lv_at hl 3 rfl) ?_
  refine lv_iconst (v := 1) hx hb dL_law_565 (by decide) ?_
  refine lv_iadd hx hb dL_law_566 ?_
  refine lv_topi (fun v1 ev1 => ?_)
  replace ev1 : v1 = 2 := ev1.trans (by decide)
  subst ev1
  refine va_sld hx hb hX hbl hbA hS (i_in (by decide) (by decide)) dL_law_567 ?_
  refine lv_aload_n hx hb dL_law_568 rfl (lv_at hl 0 rfl) ?_
  refine lv_iload_n hx hb dL_law_569 rfl (lv_at hl 3 rfl) ?_
  refine lv_iconst (v := 2) hx hb dL_law_570 (by decide) ?_
  refine lv_iadd hx hb dL_law_571 ?_
  refine lv_topi (fun v2 ev2 => ?_)
  replace ev2 : v2 = 3 := ev2.trans (by decide)
  subst ev2
  refine va_sld hx hb hX hbl hbA hS (i_in (by decide) (by decide)) dL_law_572 ?_
  refine st_i (wr := [((md 64), .inr (11, [.int 0, .long (sd.toInt64), .int 0, .ref (md 3), .ref (md 4), .ref (md 5), .int 0, .ref (md 7), .ref (md 8), .ref (md 9), .ref (md 10), .ref (md 11), .ref (md 12), .ref (md 13), .ref (md 14), .int 0, .ref (md 16), .ref (md 17), .int 0, .ref (md 19), .ref (md 20), .ref (md 21), .ref (md 22), .ref (md 23), .int 0, .int 0, .ref (md 26), .ref (md 27), .ref (md 28), .ref (md 29), .int 0, .ref (md 31), .int 0, .ref (md 33), .ref (md 34), .int 0, .int 0, .int 0, .int 0, .int 0, .int 0, .int 0, .int 0, .int 0, .int 0, .ref (md 45), .ref (md 46), .ref (md 47), .ref (md 48), .ref (md 49), .ref (md 50), .ref (md 51), .int 0, .ref (md 53), .ref (md 54), .ref (md 55), .ref (md 56), .int 0, .ref (md 58), .ref (md 59), .ref (md 60), .int 0, .ref (md 62), .int 0])), ((md 11), .inl (cI, 200, .inl (fun _ => 0))), ((md 12), .inl (cI, 12, .inl (fun _ => 0))), ((md 13), .inl (cI, 12, .inl (fun _ => 0))), ((md 14), .inl (cJ, 12, .inr (.inl (fun _ => 0))))]) (va_runV (C := RX10) (As := [.int (xs ((2 : Int32).toNatClampNeg)), .int (xs ((3 : Int32).toNatClampNeg))]) (rest := []) ⟨hx, hb, hml, hown, hts⟩ (ct_X10_truly l D cI cY cJ cQ _ ad (xs ((2 : Int32).toNatClampNeg)) (xs ((3 : Int32).toNatClampNeg))) (cwV 2 hts gL_law_X10_truly rfl rfl rfl (by decide +kernel) ⟨Nat.le_of_ble_eq_true rfl, Nat.le_of_ble_eq_true rfl⟩) (cPreV (hP.sub [0, 1, 2, 3, 4, 5] rfl) hK (hD.sub [0, 1, 2, 3, 4, 5] (by decide) rfl) hN (ci := 10) (q0 := 0) rfl rfl) rfl rfl hl.1 rfl (lv_room (Nat.le_of_ble_eq_true rfl)) dL_law_573 ⟨Nat.le_of_ble_eq_true rfl, Nat.le_of_ble_eq_true rfl⟩) hP hD hS hA [0, 1, 2, 3, 4, 5] [6, 7, 8, 9, 10] rfl rfl (by decide) (by decide) (fun r5 u3 H locs hw4 hP hD hS => ?_)
  replace hP : va_P D vwCl [((md 64), .inr (11, [.int 0, .long (sd.toInt64), .int 0, .ref (md 3), .ref (md 4), .ref (md 5), .int 0, .ref (md 7), .ref (md 8), .ref (md 9), .ref (md 10), .ref (md 11), .ref (md 12), .ref (md 13), .ref (md 14), .int 0, .ref (md 16), .ref (md 17), .int 0, .ref (md 19), .ref (md 20), .ref (md 21), .ref (md 22), .ref (md 23), .int 0, .int 0, .ref (md 26), .ref (md 27), .ref (md 28), .ref (md 29), .int 0, .ref (md 31), .int 0, .ref (md 33), .ref (md 34), .int 0, .int 0, .int 0, .int 0, .int 0, .int 0, .int 0, .int 0, .int 0, .int 0, .ref (md 45), .ref (md 46), .ref (md 47), .ref (md 48), .ref (md 49), .ref (md 50), .ref (md 51), .int 0, .ref (md 53), .ref (md 54), .ref (md 55), .ref (md 56), .int 0, .ref (md 58), .ref (md 59), .ref (md 60), .int 0, .ref (md 62), .int 0])), ((md 11), .inl (cI, 200, .inl (fun _ => 0))), ((md 12), .inl (cI, 12, .inl (fun _ => 0))), ((md 13), .inl (cI, 12, .inl (fun _ => 0))), ((md 14), .inl (cJ, 12, .inr (.inl (fun _ => 0))))] H := hP
  replace hD : va_D (fun q : Nat => s.heap.size ≤ q) [((md 64), .inr (11, [.int 0, .long (sd.toInt64), .int 0, .ref (md 3), .ref (md 4), .ref (md 5), .int 0, .ref (md 7), .ref (md 8), .ref (md 9), .ref (md 10), .ref (md 11), .ref (md 12), .ref (md 13), .ref (md 14), .int 0, .ref (md 16), .ref (md 17), .int 0, .ref (md 19), .ref (md 20), .ref (md 21), .ref (md 22), .ref (md 23), .int 0, .int 0, .ref (md 26), .ref (md 27), .ref (md 28), .ref (md 29), .int 0, .ref (md 31), .int 0, .ref (md 33), .ref (md 34), .int 0, .int 0, .int 0, .int 0, .int 0, .int 0, .int 0, .int 0, .int 0, .int 0, .ref (md 45), .ref (md 46), .ref (md 47), .ref (md 48), .ref (md 49), .ref (md 50), .ref (md 51), .int 0, .ref (md 53), .ref (md 54), .ref (md 55), .ref (md 56), .int 0, .ref (md 58), .ref (md 59), .ref (md 60), .int 0, .ref (md 62), .int 0])), ((md 11), .inl (cI, 200, .inl (fun _ => 0))), ((md 12), .inl (cI, 12, .inl (fun _ => 0))), ((md 13), .inl (cI, 12, .inl (fun _ => 0))), ((md 14), .inl (cJ, 12, .inr (.inl (fun _ => 0))))] := hD
  refine lv_aload_n hx hb dL_law_576 rfl (lv_at hl 2 rfl) ?_
  refine lv_aload_n hx hb dL_law_577 rfl (lv_at hl 0 rfl) ?_
  refine lv_iload_n hx hb dL_law_578 rfl (lv_at hl 3 rfl) ?_
  refine lv_iconst (v := 1) hx hb dL_law_579 (by decide) ?_
  refine lv_iadd hx hb dL_law_580 ?_
  refine lv_topi (fun v6 ev6 => ?_)
  replace ev6 : v6 = 2 := ev6.trans (by decide)
  subst ev6
  refine va_sld hx hb hX hbl hbA hS (i_in (by decide) (by decide)) dL_law_581 ?_
  refine lv_aload_n hx hb dL_law_582 rfl (lv_at hl 0 rfl) ?_
  refine lv_iload_n hx hb dL_law_583 rfl (lv_at hl 3 rfl) ?_
  refine lv_iconst (v := 2) hx hb dL_law_584 (by decide) ?_
  refine lv_iadd hx hb dL_law_585 ?_
  refine lv_topi (fun v7 ev7 => ?_)
  replace ev7 : v7 = 3 := ev7.trans (by decide)
  subst ev7
  refine va_sld hx hb hX hbl hbA hS (i_in (by decide) (by decide)) dL_law_586 ?_
  refine st_i (wr := []) (va_runV (C := RX11) (As := [.int (xs ((2 : Int32).toNatClampNeg)), .int (xs ((3 : Int32).toNatClampNeg))]) (rest := [.int r5]) ⟨hx, hb, hml, hown, hts⟩ (ct_X11_truly l D cI cY cJ cQ _ md sd (xs ((2 : Int32).toNatClampNeg)) (xs ((3 : Int32).toNatClampNeg)) (fun _ => 0) (fun _ => 0) (fun _ => 0)) (cwV 2 hts gL_law_X11_truly rfl rfl rfl (by decide +kernel) ⟨Nat.le_of_ble_eq_true rfl, Nat.le_of_ble_eq_true rfl⟩) (cPreV (hP.sub [0, 1, 2, 3, 4] rfl) hK (hD.sub [0, 1, 2, 3, 4] (by decide) rfl) hN (ci := 11) (q0 := 0) rfl rfl) rfl rfl hl.1 rfl (lv_room (Nat.le_of_ble_eq_true rfl)) dL_law_587 ⟨Nat.le_of_ble_eq_true rfl, Nat.le_of_ble_eq_true rfl⟩) hP hD hS hA [0, 1, 2, 3, 4] [] rfl rfl (by decide) (by decide) (fun r10 u8 H locs hw9 hP hD hS => ?_)
  replace hP : va_P D vwCl [] H := hP
  replace hD : va_D (fun q : Nat => s.heap.size ≤ q) [] := hD
  refine lv_icmp_eq (tgt := 1652) hx hb dL_law_590 (by decide) (fun _ => ?_) (fun c11 => by exfalso; exact c11 (hw4.trans hw9.symm))
  exact law_tail C0k hS (lv_sub hl [0, 3] rfl)

set_option maxHeartbeats 4000000 in
set_option maxRecDepth 100000 in
theorem law_case_9 {p : Program} {l : Launch} {e : Env} {s : State} {m : MethodId} {below : List Frame} {meth : Method} {c : Code} {D : va_G} {cI cY cJ cQ : ClassId} {b : Nat} {xs : Nat → Int32} {ad rw md : Nat → Nat} {sd : Int32} {H : Heap} {locs : List Loc} {ls : Array Slot} (C0 : lawC p s m meth c b xs D cI cY cJ cQ) (hP : va_P D vwCl [((ad 0), .inr (10, [.ref (ad 1), .ref (ad 2), .ref (ad 3), .ref (ad 4), .ref (ad 5), .ref (ad 6), .ref (ad 7), .ref (ad 8), .ref (ad 9), .ref (ad 10), .ref (ad 11), .int 0, .int 0, .int 0])), ((ad 2), .inr (3, [.ref (ad 23), .ref (ad 24), .ref (ad 25), .ref (ad 26), .int 0, .ref (ad 27), .ref (ad 28), .ref (ad 29), .ref (ad 30)])), ((ad 27), .inl (cI, 200, .inl (fun _ => 0))), ((ad 28), .inl (cI, 200, .inl (fun _ => 0))), ((ad 29), .inl (cI, 20, .inl (fun _ => 0))), ((ad 30), .inl (cI, 10, .inl (fun _ => 0))), ((md 64), .inr (11, [.int 0, .long (sd.toInt64), .int 0, .ref (md 3), .ref (md 4), .ref (md 5), .int 0, .ref (md 7), .ref (md 8), .ref (md 9), .ref (md 10), .ref (md 11), .ref (md 12), .ref (md 13), .ref (md 14), .int 0, .ref (md 16), .ref (md 17), .int 0, .ref (md 19), .ref (md 20), .ref (md 21), .ref (md 22), .ref (md 23), .int 0, .int 0, .ref (md 26), .ref (md 27), .ref (md 28), .ref (md 29), .int 0, .ref (md 31), .int 0, .ref (md 33), .ref (md 34), .int 0, .int 0, .int 0, .int 0, .int 0, .int 0, .int 0, .int 0, .int 0, .int 0, .ref (md 45), .ref (md 46), .ref (md 47), .ref (md 48), .ref (md 49), .ref (md 50), .ref (md 51), .int 0, .ref (md 53), .ref (md 54), .ref (md 55), .ref (md 56), .int 0, .ref (md 58), .ref (md 59), .ref (md 60), .int 0, .ref (md 62), .int 0])), ((md 11), .inl (cI, 200, .inl (fun _ => 0)))] H) (hD : va_D (fun q : Nat => s.heap.size ≤ q) [((ad 0), .inr (10, [.ref (ad 1), .ref (ad 2), .ref (ad 3), .ref (ad 4), .ref (ad 5), .ref (ad 6), .ref (ad 7), .ref (ad 8), .ref (ad 9), .ref (ad 10), .ref (ad 11), .int 0, .int 0, .int 0])), ((ad 2), .inr (3, [.ref (ad 23), .ref (ad 24), .ref (ad 25), .ref (ad 26), .int 0, .ref (ad 27), .ref (ad 28), .ref (ad 29), .ref (ad 30)])), ((ad 27), .inl (cI, 200, .inl (fun _ => 0))), ((ad 28), .inl (cI, 200, .inl (fun _ => 0))), ((ad 29), .inl (cI, 20, .inl (fun _ => 0))), ((ad 30), .inl (cI, 10, .inl (fun _ => 0))), ((md 64), .inr (11, [.int 0, .long (sd.toInt64), .int 0, .ref (md 3), .ref (md 4), .ref (md 5), .int 0, .ref (md 7), .ref (md 8), .ref (md 9), .ref (md 10), .ref (md 11), .ref (md 12), .ref (md 13), .ref (md 14), .int 0, .ref (md 16), .ref (md 17), .int 0, .ref (md 19), .ref (md 20), .ref (md 21), .ref (md 22), .ref (md 23), .int 0, .int 0, .ref (md 26), .ref (md 27), .ref (md 28), .ref (md 29), .int 0, .ref (md 31), .int 0, .ref (md 33), .ref (md 34), .int 0, .int 0, .int 0, .int 0, .int 0, .int 0, .int 0, .int 0, .int 0, .int 0, .ref (md 45), .ref (md 46), .ref (md 47), .ref (md 48), .ref (md 49), .ref (md 50), .ref (md 51), .int 0, .ref (md 53), .ref (md 54), .ref (md 55), .ref (md 56), .int 0, .ref (md 58), .ref (md 59), .ref (md 60), .int 0, .ref (md 62), .int 0])), ((md 11), .inl (cI, 200, .inl (fun _ => 0)))]) (hS : va_S (fun q : Nat => s.heap.size ≤ q) s.heap H locs) (hl : lv_has ls 4 [(0, .ref b), (1, .ref (ad 0)), (2, .ref (md 64)), (3, .int 1)]) : W p l e room_1 s m #[Value.ref b] below meth c H locs 107 4890 (lw_Z below #[Value.ref b] s) (F0 m 595 ls []) := by
  have C0k := C0
  obtain ⟨C1, hK, hN⟩ := C0
  obtain ⟨hx, hb, hr, hml, hown, hts0, hX, hbl, hlocks, hgv⟩ := C1
  have hA : ∀ q : Nat, s.heap.size ≤ q → (fun q : Nat => s.heap.size ≤ q) q := fun _ h => h
  have hbA : ¬ (fun q : Nat => s.heap.size ≤ q) b := Nat.not_le.mpr hbl
  have hts : ∀ w ∈ wsL_law, w.before #[Value.ref b] s = true := fun w h => hts0 w (wsL_law_in w h)
  replace hown : s.vm.findClass RL = some m.cls := hown
  replace hb : c.code = cL_law := hb
  have hLI : (Int32.ofNat 7).toInt = 7 := by decide
  refine lv_aload_n hx hb dL_law_595 rfl (lv_at hl 1 rfl) ?_
  refine lv_aload_n hx hb dL_law_596 rfl (lv_at hl 0 rfl) ?_
  refine lv_iload_n hx hb dL_law_597 rfl (lv_at hl 3 rfl) ?_
  refine lv_iconst (v := 1) hx hb dL_law_598 (by decide) ?_
  refine lv_iadd hx hb dL_law_599 ?_
  refine lv_topi (fun v1 ev1 => ?_)
  replace ev1 : v1 = 2 := ev1.trans (by decide)
  subst ev1
  refine va_sld hx hb hX hbl hbA hS (i_in (by decide) (by decide)) dL_law_600 ?_
  refine st_i (wr := [((md 64), .inr (11, [.int 0, .long (sd.toInt64), .int 0, .ref (md 3), .ref (md 4), .ref (md 5), .int 0, .ref (md 7), .ref (md 8), .ref (md 9), .ref (md 10), .ref (md 11), .ref (md 12), .ref (md 13), .ref (md 14), .int 0, .ref (md 16), .ref (md 17), .int 0, .ref (md 19), .ref (md 20), .ref (md 21), .ref (md 22), .ref (md 23), .int 0, .int 0, .ref (md 26), .ref (md 27), .ref (md 28), .ref (md 29), .int 0, .ref (md 31), .int 0, .ref (md 33), .ref (md 34), .int 0, .int 0, .int 0, .int 0, .int 0, .int 0, .int 0, .int 0, .int 0, .int 0, .ref (md 45), .ref (md 46), .ref (md 47), .ref (md 48), .ref (md 49), .ref (md 50), .ref (md 51), .int 0, .ref (md 53), .ref (md 54), .ref (md 55), .ref (md 56), .int 0, .ref (md 58), .ref (md 59), .ref (md 60), .int 0, .ref (md 62), .int 0])), ((md 11), .inl (cI, 200, .inl (fun _ => 0)))]) (va_runV (C := RX10) (As := [.int (xs ((2 : Int32).toNatClampNeg))]) (rest := []) ⟨hx, hb, hml, hown, hts⟩ (ct_X10_rings l D cI cY cJ cQ _ ad (xs ((2 : Int32).toNatClampNeg))) (cwV 1 hts gL_law_X10_rings rfl rfl rfl (by decide +kernel) ⟨Nat.le_of_ble_eq_true rfl, Nat.le_of_ble_eq_true rfl⟩) (cPreV (hP.sub [0, 1, 2, 3, 4, 5] rfl) hK (hD.sub [0, 1, 2, 3, 4, 5] (by decide) rfl) hN (ci := 10) (q0 := 0) rfl rfl) rfl rfl hl.1 rfl (lv_room (Nat.le_of_ble_eq_true rfl)) dL_law_601 ⟨Nat.le_of_ble_eq_true rfl, Nat.le_of_ble_eq_true rfl⟩) hP hD hS hA [0, 1, 2, 3, 4, 5] [6, 7] rfl rfl (by decide) (by decide) (fun r4 u2 H locs hw3 hP hD hS => ?_)
  replace hP : va_P D vwCl [((md 64), .inr (11, [.int 0, .long (sd.toInt64), .int 0, .ref (md 3), .ref (md 4), .ref (md 5), .int 0, .ref (md 7), .ref (md 8), .ref (md 9), .ref (md 10), .ref (md 11), .ref (md 12), .ref (md 13), .ref (md 14), .int 0, .ref (md 16), .ref (md 17), .int 0, .ref (md 19), .ref (md 20), .ref (md 21), .ref (md 22), .ref (md 23), .int 0, .int 0, .ref (md 26), .ref (md 27), .ref (md 28), .ref (md 29), .int 0, .ref (md 31), .int 0, .ref (md 33), .ref (md 34), .int 0, .int 0, .int 0, .int 0, .int 0, .int 0, .int 0, .int 0, .int 0, .int 0, .ref (md 45), .ref (md 46), .ref (md 47), .ref (md 48), .ref (md 49), .ref (md 50), .ref (md 51), .int 0, .ref (md 53), .ref (md 54), .ref (md 55), .ref (md 56), .int 0, .ref (md 58), .ref (md 59), .ref (md 60), .int 0, .ref (md 62), .int 0])), ((md 11), .inl (cI, 200, .inl (fun _ => 0)))] H := hP
  replace hD : va_D (fun q : Nat => s.heap.size ≤ q) [((md 64), .inr (11, [.int 0, .long (sd.toInt64), .int 0, .ref (md 3), .ref (md 4), .ref (md 5), .int 0, .ref (md 7), .ref (md 8), .ref (md 9), .ref (md 10), .ref (md 11), .ref (md 12), .ref (md 13), .ref (md 14), .int 0, .ref (md 16), .ref (md 17), .int 0, .ref (md 19), .ref (md 20), .ref (md 21), .ref (md 22), .ref (md 23), .int 0, .int 0, .ref (md 26), .ref (md 27), .ref (md 28), .ref (md 29), .int 0, .ref (md 31), .int 0, .ref (md 33), .ref (md 34), .int 0, .int 0, .int 0, .int 0, .int 0, .int 0, .int 0, .int 0, .int 0, .int 0, .ref (md 45), .ref (md 46), .ref (md 47), .ref (md 48), .ref (md 49), .ref (md 50), .ref (md 51), .int 0, .ref (md 53), .ref (md 54), .ref (md 55), .ref (md 56), .int 0, .ref (md 58), .ref (md 59), .ref (md 60), .int 0, .ref (md 62), .int 0])), ((md 11), .inl (cI, 200, .inl (fun _ => 0)))] := hD
  refine lv_aload_n hx hb dL_law_604 rfl (lv_at hl 2 rfl) ?_
  refine lv_aload_n hx hb dL_law_605 rfl (lv_at hl 0 rfl) ?_
  refine lv_iload_n hx hb dL_law_606 rfl (lv_at hl 3 rfl) ?_
  refine lv_iconst (v := 1) hx hb dL_law_607 (by decide) ?_
  refine lv_iadd hx hb dL_law_608 ?_
  refine lv_topi (fun v5 ev5 => ?_)
  replace ev5 : v5 = 2 := ev5.trans (by decide)
  subst ev5
  refine va_sld hx hb hX hbl hbA hS (i_in (by decide) (by decide)) dL_law_609 ?_
  refine st_i (wr := []) (va_runV (C := RX11) (As := [.int (xs ((2 : Int32).toNatClampNeg))]) (rest := [.int r4]) ⟨hx, hb, hml, hown, hts⟩ (ct_X11_rings l D cI cY cJ cQ _ md sd (xs ((2 : Int32).toNatClampNeg))) (cwV 1 hts gL_law_X11_rings rfl rfl rfl (by decide +kernel) ⟨Nat.le_of_ble_eq_true rfl, Nat.le_of_ble_eq_true rfl⟩) (cPreV (hP.sub [0, 1] rfl) hK (hD.sub [0, 1] (by decide) rfl) hN (ci := 11) (q0 := 0) rfl rfl) rfl rfl hl.1 rfl (lv_room (Nat.le_of_ble_eq_true rfl)) dL_law_610 ⟨Nat.le_of_ble_eq_true rfl, Nat.le_of_ble_eq_true rfl⟩) hP hD hS hA [0, 1] [] rfl rfl (by decide) (by decide) (fun r8 u6 H locs hw7 hP hD hS => ?_)
  replace hP : va_P D vwCl [] H := hP
  replace hD : va_D (fun q : Nat => s.heap.size ≤ q) [] := hD
  refine lv_icmp_eq (tgt := 1652) hx hb dL_law_613 (by decide) (fun _ => ?_) (fun c9 => by exfalso; exact c9 (hw3.trans hw7.symm))
  exact law_tail C0k hS (lv_sub hl [0, 3] rfl)
