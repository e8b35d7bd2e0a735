set_option maxRecDepth 20000 in
theorem ggL_law_X10_duty : GoodIn wsL_law wsX10_duty := goodIn_r _ [768, 200, 44, 40, 769, 770, 428, 28, 544, 771, 772, 465, 466, 467, 2, 468, 448, 201, 202, 203, 773, 774, 775, 43, 776, 758, 127, 125, 126, 128, 777, 778, 779, 39, 780, 608, 116, 117, 781, 1142, 1143, 1144, 1145, 1146, 1147, 1148, 1149, 1150, 1151, 1152, 1153, 1154, 1155, 1266, 1267, 1268, 1269, 1270, 1232, 1233, 1234, 1235, 1236, 1237, 1251, 1252, 1253, 1254, 1255, 1256, 1257, 1258, 1259, 1260, 1261, 1262, 1263, 1264, 1265] (by decide +kernel) (by decide +kernel)
set_option maxRecDepth 20000 in
theorem gL_law_X10_duty : GoodIn wsL_law (wsV RL 110 RX10 yX10_duty wsX10_duty) := goodIn_app (goodIn_of _ (by decide +kernel)) ggL_law_X10_duty
set_option maxRecDepth 20000 in
theorem ggL_law_X11_duty : GoodIn wsL_law wsX11_duty := goodIn_r _ [785, 222, 223, 224, 194, 764, 178, 180, 165, 175, 486, 487, 488, 5, 489, 459, 230, 231, 232, 786, 787, 788, 789, 703, 179, 181, 1156, 1157, 1158, 1159, 1160, 1161, 1162, 1163, 1164, 1165, 1166, 1167, 1168, 1169, 1170, 1171, 1172, 1173, 1174, 1175, 1176, 1177, 1178, 1179, 1180, 1181, 1182, 1183, 1184, 1185, 1186, 1187, 1188, 1189, 1190, 1191, 1192, 1193, 1194, 1195, 1196, 1197, 1198, 1199, 1200, 1201, 1202, 1203, 1204, 1205, 1206, 1207, 1208, 1209, 1210, 1211, 1212, 1213, 1214, 1215, 1216, 1217, 1218, 1219] (by decide +kernel) (by decide +kernel)
set_option maxRecDepth 20000 in
theorem gL_law_X11_duty : GoodIn wsL_law (wsV RL 113 RX11 yX11_duty wsX11_duty) := goodIn_app (goodIn_of _ (by decide +kernel)) ggL_law_X11_duty
set_option maxRecDepth 20000 in
theorem ggL_law_X10_room : GoodIn wsL_law wsX10_room := goodIn_r _ [793, 794, 200, 28, 795, 796, 201, 202, 2, 203, 300, 301, 302, 1142, 1143, 1144, 1145, 1146, 1147, 1148, 1149, 1150, 1151, 1152, 1153, 1154, 1155, 1232, 1233, 1234, 1235, 1236, 1237] (by decide +kernel) (by decide +kernel)
set_option maxRecDepth 20000 in
theorem gL_law_X10_room : GoodIn wsL_law (wsV RL 114 RX10 yX10_room wsX10_room) := goodIn_app (goodIn_of _ (by decide +kernel)) ggL_law_X10_room
set_option maxRecDepth 20000 in
theorem ggL_law_X11_room : GoodIn wsL_law wsX11_room := goodIn_r _ [800, 222, 801, 422, 224, 182, 183, 802, 803, 5, 804, 805, 230, 231, 232, 1156, 1157, 1158, 1159, 1160, 1161, 1162, 1163, 1164, 1165, 1166, 1167, 1168, 1169, 1170, 1171, 1172, 1173, 1174, 1175, 1176, 1177, 1178, 1179, 1180, 1181, 1182, 1183, 1184, 1185, 1186, 1187, 1188, 1189, 1190, 1191, 1192, 1193, 1194, 1195, 1196, 1197, 1198, 1199, 1200, 1201, 1202, 1203, 1204, 1205, 1206, 1207, 1208, 1209, 1210, 1211, 1212, 1213, 1214, 1215, 1216, 1217, 1218, 1219] (by decide +kernel) (by decide +kernel)
set_option maxRecDepth 20000 in
theorem gL_law_X11_room : GoodIn wsL_law (wsV RL 117 RX11 yX11_room wsX11_room) := goodIn_app (goodIn_of _ (by decide +kernel)) ggL_law_X11_room
set_option maxRecDepth 20000 in
theorem ggL_law_X10_move : GoodIn wsL_law wsX10_move := goodIn_r _ [809, 428, 200, 28, 810, 811, 290, 465, 466, 467, 2, 468, 448, 201, 202, 203, 812, 813, 814, 27, 815, 89, 87, 90, 816, 817, 818, 819, 453, 88, 820, 821, 822, 823, 824, 825, 826, 827, 828, 829, 830, 365, 366, 1142, 1143, 1144, 1145, 1146, 1147, 1148, 1149, 1150, 1151, 1152, 1153, 1154, 1155, 1232, 1233, 1234, 1235, 1236, 1237] (by decide +kernel) (by decide +kernel)
set_option maxRecDepth 20000 in
theorem gL_law_X10_move : GoodIn wsL_law (wsV RL 118 RX10 yX10_move wsX10_move) := goodIn_app (goodIn_of _ (by decide +kernel)) ggL_law_X10_move
set_option maxRecDepth 20000 in
theorem ggL_law_X11_move : GoodIn wsL_law wsX11_move := goodIn_r _ [834, 222, 194, 224, 184, 835, 182, 165, 183, 321, 486, 487, 488, 5, 489, 459, 230, 231, 232, 802, 803, 804, 805, 836, 837, 838, 839, 1156, 1157, 1158, 1159, 1160, 1161, 1162, 1163, 1164, 1165, 1166, 1167, 1168, 1169, 1170, 1171, 1172, 1173, 1174, 1175, 1176, 1177, 1178, 1179, 1180, 1181, 1182, 1183, 1184, 1185, 1186, 1187, 1188, 1189, 1190, 1191, 1192, 1193, 1194, 1195, 1196, 1197, 1198, 1199, 1200, 1201, 1202, 1203, 1204, 1205, 1206, 1207, 1208, 1209, 1210, 1211, 1212, 1213, 1214, 1215, 1216, 1217, 1218, 1219] (by decide +kernel) (by decide +kernel)
set_option maxRecDepth 20000 in
theorem gL_law_X11_move : GoodIn wsL_law (wsV RL 121 RX11 yX11_move wsX11_move) := goodIn_app (goodIn_of _ (by decide +kernel)) ggL_law_X11_move
set_option maxRecDepth 20000 in
theorem ggL_law_X10_inside : GoodIn wsL_law wsX10_inside := goodIn_r _ [843, 200, 28, 201, 202, 2, 203, 844, 817, 818, 27, 819, 453, 88, 845, 821, 822, 823, 824, 825, 826, 846, 828, 829, 830, 87, 365, 366, 1142, 1143, 1144, 1145, 1146, 1147, 1148, 1149, 1150, 1151, 1152, 1153, 1154, 1155, 1232, 1233, 1234, 1235, 1236, 1237] (by decide +kernel) (by decide +kernel)
set_option maxRecDepth 20000 in
theorem gL_law_X10_inside : GoodIn wsL_law (wsV RL 122 RX10 yX10_inside wsX10_inside) := goodIn_app (goodIn_of _ (by decide +kernel)) ggL_law_X10_inside
set_option maxRecDepth 20000 in
theorem ggL_law_X11_inside : GoodIn wsL_law wsX11_inside := goodIn_r _ [850, 222, 223, 224, 802, 803, 5, 804, 805, 230, 231, 232, 836, 837, 838, 839, 459, 184, 165, 1156, 1157, 1158, 1159, 1160, 1161, 1162, 1163, 1164, 1165, 1166, 1167, 1168, 1169, 1170, 1171, 1172, 1173, 1174, 1175, 1176, 1177, 1178, 1179, 1180, 1181, 1182, 1183, 1184, 1185, 1186, 1187, 1188, 1189, 1190, 1191, 1192, 1193, 1194, 1195, 1196, 1197, 1198, 1199, 1200, 1201, 1202, 1203, 1204, 1205, 1206, 1207, 1208, 1209, 1210, 1211, 1212, 1213, 1214, 1215, 1216, 1217, 1218, 1219] (by decide +kernel) (by decide +kernel)
set_option maxRecDepth 20000 in
theorem gL_law_X11_inside : GoodIn wsL_law (wsV RL 125 RX11 yX11_inside wsX11_inside) := goodIn_app (goodIn_of _ (by decide +kernel)) ggL_law_X11_inside
set_option maxRecDepth 20000 in
theorem ggL_law_X10_lot : GoodIn wsL_law wsX10_lot := goodIn_r _ [854, 794, 200, 58, 201, 202, 2, 203, 303, 304, 305, 300, 301, 302, 855, 856, 857, 57, 858, 148, 859, 860, 861, 862, 863, 1142, 1143, 1144, 1145, 1146, 1147, 1148, 1149, 1150, 1151, 1152, 1153, 1154, 1155, 1280, 1281] (by decide +kernel) (by decide +kernel)
set_option maxRecDepth 20000 in
theorem gL_law_X10_lot : GoodIn wsL_law (wsV RL 126 RX10 yX10_lot wsX10_lot) := goodIn_app (goodIn_of _ (by decide +kernel)) ggL_law_X10_lot
set_option maxRecDepth 20000 in
theorem ggL_law_X11_lot : GoodIn wsL_law wsX11_lot := goodIn_r _ [867, 222, 868, 422, 224, 230, 231, 5, 232, 330, 331, 332, 333, 869, 870, 871, 872, 193, 873, 874, 875, 876, 877, 1156, 1157, 1158, 1159, 1160, 1161, 1162, 1163, 1164, 1165, 1166, 1167, 1168, 1169, 1170, 1171, 1172, 1173, 1174, 1175, 1176, 1177, 1178, 1179, 1180, 1181, 1182, 1183, 1184, 1185, 1186, 1187, 1188, 1189, 1190, 1191, 1192, 1193, 1194, 1195, 1196, 1197, 1198, 1199, 1200, 1201, 1202, 1203, 1204, 1205, 1206, 1207, 1208, 1209, 1210, 1211, 1212, 1213, 1214, 1215, 1216, 1217, 1218, 1219] (by decide +kernel) (by decide +kernel)
set_option maxRecDepth 20000 in
theorem gL_law_X11_lot : GoodIn wsL_law (wsV RL 129 RX11 yX11_lot wsX11_lot) := goodIn_app (goodIn_of _ (by decide +kernel)) ggL_law_X11_lot
set_option maxRecDepth 20000 in
theorem ggL_law_X10_drawn : GoodIn wsL_law wsX10_drawn := goodIn_r _ [881, 200, 28, 58, 303, 304, 2, 305, 201, 202, 203, 300, 301, 302, 882, 883, 884, 27, 885, 453, 91, 816, 817, 818, 819, 88, 886, 887, 888, 57, 889, 147, 365, 366, 890, 856, 857, 858, 148, 859, 860, 861, 862, 863, 438, 891, 892, 893, 894, 1142, 1143, 1144, 1145, 1146, 1147, 1148, 1149, 1150, 1151, 1152, 1153, 1154, 1155, 1232, 1233, 1234, 1235, 1236, 1237, 1280, 1281] (by decide +kernel) (by decide +kernel)
set_option maxRecDepth 20000 in
theorem gL_law_X10_drawn : GoodIn wsL_law (wsV RL 130 RX10 yX10_drawn wsX10_drawn) := goodIn_app (goodIn_of _ (by decide +kernel)) ggL_law_X10_drawn
set_option maxRecDepth 20000 in
theorem ggL_law_X11_drawn : GoodIn wsL_law wsX11_drawn := goodIn_r _ [898, 222, 801, 224, 330, 331, 5, 332, 333, 230, 231, 232, 899, 900, 901, 902, 194, 459, 184, 869, 870, 871, 872, 193, 873, 874, 875, 876, 877, 1156, 1157, 1158, 1159, 1160, 1161, 1162, 1163, 1164, 1165, 1166, 1167, 1168, 1169, 1170, 1171, 1172, 1173, 1174, 1175, 1176, 1177, 1178, 1179, 1180, 1181, 1182, 1183, 1184, 1185, 1186, 1187, 1188, 1189, 1190, 1191, 1192, 1193, 1194, 1195, 1196, 1197, 1198, 1199, 1200, 1201, 1202, 1203, 1204, 1205, 1206, 1207, 1208, 1209, 1210, 1211, 1212, 1213, 1214, 1215, 1216, 1217, 1218, 1219] (by decide +kernel) (by decide +kernel)
set_option maxRecDepth 20000 in
theorem gL_law_X11_drawn : GoodIn wsL_law (wsV RL 133 RX11 yX11_drawn wsX11_drawn) := goodIn_app (goodIn_of _ (by decide +kernel)) ggL_law_X11_drawn
set_option maxRecDepth 20000 in
theorem ggL_law_X10_often : GoodIn wsL_law wsX10_often := goodIn_r _ [906, 200, 28, 58, 465, 466, 467, 2, 468, 448, 201, 202, 203, 469, 470, 471, 303, 304, 305, 300, 301, 302, 882, 883, 884, 27, 885, 453, 91, 816, 817, 818, 819, 88, 438, 365, 366, 886, 887, 888, 57, 889, 147, 890, 856, 857, 858, 148, 859, 860, 861, 862, 863, 891, 892, 893, 894, 1142, 1143, 1144, 1145, 1146, 1147, 1148, 1149, 1150, 1151, 1152, 1153, 1154, 1155, 1232, 1233, 1234, 1235, 1236, 1237, 1280, 1281] (by decide +kernel) (by decide +kernel)
set_option maxRecDepth 20000 in
theorem gL_law_X10_often : GoodIn wsL_law (wsV RL 134 RX10 yX10_often wsX10_often) := goodIn_app (goodIn_of _ (by decide +kernel)) ggL_law_X10_often
set_option maxRecDepth 20000 in
theorem ggL_law_X11_often : GoodIn wsL_law wsX11_often := goodIn_r _ [910, 222, 801, 224, 486, 487, 488, 5, 489, 459, 230, 231, 232, 330, 331, 332, 333, 899, 900, 901, 902, 194, 184, 869, 870, 871, 872, 193, 873, 874, 875, 876, 877, 1156, 1157, 1158, 1159, 1160, 1161, 1162, 1163, 1164, 1165, 1166, 1167, 1168, 1169, 1170, 1171, 1172, 1173, 1174, 1175, 1176, 1177, 1178, 1179, 1180, 1181, 1182, 1183, 1184, 1185, 1186, 1187, 1188, 1189, 1190, 1191, 1192, 1193, 1194, 1195, 1196, 1197, 1198, 1199, 1200, 1201, 1202, 1203, 1204, 1205, 1206, 1207, 1208, 1209, 1210, 1211, 1212, 1213, 1214, 1215, 1216, 1217, 1218, 1219] (by decide +kernel) (by decide +kernel)
set_option maxRecDepth 20000 in
theorem gL_law_X11_often : GoodIn wsL_law (wsV RL 137 RX11 yX11_often wsX11_often) := goodIn_app (goodIn_of _ (by decide +kernel)) ggL_law_X11_often
set_option maxRecDepth 20000 in
theorem ggL_law_X10_opened : GoodIn wsL_law wsX10_opened := goodIn_r _ [914, 447, 200, 48, 915, 290, 465, 466, 467, 2, 468, 28, 448, 201, 202, 203, 303, 304, 305, 300, 301, 302, 916, 917, 918, 47, 919, 132, 920, 133, 134, 135, 1142, 1143, 1144, 1145, 1146, 1147, 1148, 1149, 1150, 1151, 1152, 1153, 1154, 1155, 1271, 1272, 1273, 1274, 1275, 1232, 1233, 1234, 1235, 1236, 1237] (by decide +kernel) (by decide +kernel)
set_option maxRecDepth 20000 in
theorem gL_law_X10_opened : GoodIn wsL_law (wsV RL 138 RX10 yX10_opened wsX10_opened) := goodIn_app (goodIn_of _ (by decide +kernel)) ggL_law_X10_opened
set_option maxRecDepth 20000 in
theorem ggL_law_X11_opened : GoodIn wsL_law wsX11_opened := goodIn_r _ [924, 222, 458, 593, 224, 925, 321, 185, 186, 187, 188, 486, 487, 488, 5, 489, 459, 230, 231, 232, 330, 331, 332, 333, 1156, 1157, 1158, 1159, 1160, 1161, 1162, 1163, 1164, 1165, 1166, 1167, 1168, 1169, 1170, 1171, 1172, 1173, 1174, 1175, 1176, 1177, 1178, 1179, 1180, 1181, 1182, 1183, 1184, 1185, 1186, 1187, 1188, 1189, 1190, 1191, 1192, 1193, 1194, 1195, 1196, 1197, 1198, 1199, 1200, 1201, 1202, 1203, 1204, 1205, 1206, 1207, 1208, 1209, 1210, 1211, 1212, 1213, 1214, 1215, 1216, 1217, 1218, 1219] (by decide +kernel) (by decide +kernel)
set_option maxRecDepth 20000 in
theorem gL_law_X11_opened : GoodIn wsL_law (wsV RL 141 RX11 yX11_opened wsX11_opened) := goodIn_app (goodIn_of _ (by decide +kernel)) ggL_law_X11_opened
set_option maxRecDepth 20000 in
theorem ggL_law_X10_verdict : GoodIn wsL_law wsX10_verdict := goodIn_r _ [929, 200, 48, 465, 466, 467, 2, 468, 28, 448, 201, 202, 203, 930, 931, 932, 47, 933, 920, 132, 934, 935, 391, 936, 937, 938, 939, 940, 133, 941, 942, 943, 944, 134, 945, 946, 947, 135, 948, 821, 822, 823, 824, 825, 826, 1142, 1143, 1144, 1145, 1146, 1147, 1148, 1149, 1150, 1151, 1152, 1153, 1154, 1155, 1232, 1233, 1234, 1235, 1236, 1237, 1271, 1272, 1273, 1274, 1275] (by decide +kernel) (by decide +kernel)
set_option maxRecDepth 20000 in
theorem gL_law_X10_verdict : GoodIn wsL_law (wsV RL 142 RX10 yX10_verdict wsX10_verdict) := goodIn_app (goodIn_of _ (by decide +kernel)) ggL_law_X10_verdict
set_option maxRecDepth 20000 in
theorem ggL_law_X11_verdict : GoodIn wsL_law wsX11_verdict := goodIn_r _ [952, 222, 224, 194, 925, 185, 186, 187, 188, 486, 487, 488, 5, 489, 459, 230, 231, 232, 953, 954, 955, 1156, 1157, 1158, 1159, 1160, 1161, 1162, 1163, 1164, 1165, 1166, 1167, 1168, 1169, 1170, 1171, 1172, 1173, 1174, 1175, 1176, 1177, 1178, 1179, 1180, 1181, 1182, 1183, 1184, 1185, 1186, 1187, 1188, 1189, 1190, 1191, 1192, 1193, 1194, 1195, 1196, 1197, 1198, 1199, 1200, 1201, 1202, 1203, 1204, 1205, 1206, 1207, 1208, 1209, 1210, 1211, 1212, 1213, 1214, 1215, 1216, 1217, 1218, 1219] (by decide +kernel) (by decide +kernel)
set_option maxRecDepth 20000 in
theorem gL_law_X11_verdict : GoodIn wsL_law (wsV RL 145 RX11 yX11_verdict wsX11_verdict) := goodIn_app (goodIn_of _ (by decide +kernel)) ggL_law_X11_verdict
set_option maxRecDepth 20000 in
theorem ggL_law_X10_list : GoodIn wsL_law wsX10_list := goodIn_r _ [959, 200, 52, 960, 290, 297, 298, 2, 299, 201, 202, 203, 469, 470, 471, 303, 304, 305, 961, 962, 963, 51, 964, 139, 965, 140, 141, 1142, 1143, 1144, 1145, 1146, 1147, 1148, 1149, 1150, 1151, 1152, 1153, 1154, 1155, 1276, 1277, 1278, 1279] (by decide +kernel) (by decide +kernel)
set_option maxRecDepth 20000 in
theorem gL_law_X10_list : GoodIn wsL_law (wsV RL 146 RX10 yX10_list wsX10_list) := goodIn_app (goodIn_of _ (by decide +kernel)) ggL_law_X10_list
set_option maxRecDepth 20000 in
theorem ggL_law_X11_list : GoodIn wsL_law wsX11_list := goodIn_r _ [969, 222, 333, 224, 970, 321, 189, 190, 191, 405, 406, 5, 407, 408, 230, 231, 232, 330, 331, 332, 1156, 1157, 1158, 1159, 1160, 1161, 1162, 1163, 1164, 1165, 1166, 1167, 1168, 1169, 1170, 1171, 1172, 1173, 1174, 1175, 1176, 1177, 1178, 1179, 1180, 1181, 1182, 1183, 1184, 1185, 1186, 1187, 1188, 1189, 1190, 1191, 1192, 1193, 1194, 1195, 1196, 1197, 1198, 1199, 1200, 1201, 1202, 1203, 1204, 1205, 1206, 1207, 1208, 1209, 1210, 1211, 1212, 1213, 1214, 1215, 1216, 1217, 1218, 1219] (by decide +kernel) (by decide +kernel)
set_option maxRecDepth 20000 in
theorem gL_law_X11_list : GoodIn wsL_law (wsV RL 149 RX11 yX11_list wsX11_list) := goodIn_app (goodIn_of _ (by decide +kernel)) ggL_law_X11_list
theorem dL_law_1058 : decode cL_law 1058 = .ok (.aload_n 1, 1) := by decide +kernel
theorem dL_law_1059 : decode cL_law 1059 = .ok (.aload_n 0, 1) := by decide +kernel
theorem dL_law_1060 : decode cL_law 1060 = .ok (.iload_n 3, 1) := by decide +kernel
theorem dL_law_1061 : decode cL_law 1061 = .ok (.iconst 1, 1) := by decide +kernel
theorem dL_law_1062 : decode cL_law 1062 = .ok (.iadd, 1) := by decide +kernel
theorem dL_law_1063 : decode cL_law 1063 = .ok (.iaload, 1) := by decide +kernel
theorem dL_law_1064 : decode cL_law 1064 = .ok (.aload_n 0, 1) := by decide +kernel
theorem dL_law_1065 : decode cL_law 1065 = .ok (.iload_n 3, 1) := by decide +kernel
theorem dL_law_1066 : decode cL_law 1066 = .ok (.iconst 2, 1) := by decide +kernel
theorem dL_law_1067 : decode cL_law 1067 = .ok (.iadd, 1) := by decide +kernel
theorem dL_law_1068 : decode cL_law 1068 = .ok (.iaload, 1) := by decide +kernel
theorem dL_law_1069 : decode cL_law 1069 = .ok (.invokevirtual 110, 3) := by decide +kernel
theorem dL_law_1072 : decode cL_law 1072 = .ok (.aload_n 2, 1) := by decide +kernel
theorem dL_law_1073 : decode cL_law 1073 = .ok (.aload_n 0, 1) := by decide +kernel
theorem dL_law_1074 : decode cL_law 1074 = .ok (.iload_n 3, 1) := by decide +kernel
theorem dL_law_1075 : decode cL_law 1075 = .ok (.iconst 1, 1) := by decide +kernel
theorem dL_law_1076 : decode cL_law 1076 = .ok (.iadd, 1) := by decide +kernel
theorem dL_law_1077 : decode cL_law 1077 = .ok (.iaload, 1) := by decide +kernel
theorem dL_law_1078 : decode cL_law 1078 = .ok (.aload_n 0, 1) := by decide +kernel
theorem dL_law_1079 : decode cL_law 1079 = .ok (.iload_n 3, 1) := by decide +kernel
theorem dL_law_1080 : decode cL_law 1080 = .ok (.iconst 2, 1) := by decide +kernel
theorem dL_law_1081 : decode cL_law 1081 = .ok (.iadd, 1) := by decide +kernel
theorem dL_law_1082 : decode cL_law 1082 = .ok (.iaload, 1) := by decide +kernel
theorem dL_law_1083 : decode cL_law 1083 = .ok (.invokevirtual 113, 3) := by decide +kernel
theorem dL_law_1086 : decode cL_law 1086 = .ok (.if_icmp .eq 566, 3) := by decide +kernel
theorem dL_law_1091 : decode cL_law 1091 = .ok (.aload_n 1, 1) := by decide +kernel
theorem dL_law_1092 : decode cL_law 1092 = .ok (.aload_n 0, 1) := by decide +kernel
theorem dL_law_1093 : decode cL_law 1093 = .ok (.iload_n 3, 1) := by decide +kernel
theorem dL_law_1094 : decode cL_law 1094 = .ok (.iconst 1, 1) := by decide +kernel
theorem dL_law_1095 : decode cL_law 1095 = .ok (.iadd, 1) := by decide +kernel
theorem dL_law_1096 : decode cL_law 1096 = .ok (.iaload, 1) := by decide +kernel
theorem dL_law_1097 : decode cL_law 1097 = .ok (.aload_n 0, 1) := by decide +kernel
theorem dL_law_1098 : decode cL_law 1098 = .ok (.iload_n 3, 1) := by decide +kernel
theorem dL_law_1099 : decode cL_law 1099 = .ok (.iconst 2, 1) := by decide +kernel
theorem dL_law_1100 : decode cL_law 1100 = .ok (.iadd, 1) := by decide +kernel
theorem dL_law_1101 : decode cL_law 1101 = .ok (.iaload, 1) := by decide +kernel
theorem dL_law_1102 : decode cL_law 1102 = .ok (.aload_n 0, 1) := by decide +kernel
theorem dL_law_1103 : decode cL_law 1103 = .ok (.iload_n 3, 1) := by decide +kernel
theorem dL_law_1104 : decode cL_law 1104 = .ok (.iconst 3, 1) := by decide +kernel
theorem dL_law_1105 : decode cL_law 1105 = .ok (.iadd, 1) := by decide +kernel
theorem dL_law_1106 : decode cL_law 1106 = .ok (.iaload, 1) := by decide +kernel
theorem dL_law_1107 : decode cL_law 1107 = .ok (.invokevirtual 114, 3) := by decide +kernel
theorem dL_law_1110 : decode cL_law 1110 = .ok (.aload_n 2, 1) := by decide +kernel
theorem dL_law_1111 : decode cL_law 1111 = .ok (.aload_n 0, 1) := by decide +kernel
theorem dL_law_1112 : decode cL_law 1112 = .ok (.iload_n 3, 1) := by decide +kernel
theorem dL_law_1113 : decode cL_law 1113 = .ok (.iconst 1, 1) := by decide +kernel
theorem dL_law_1114 : decode cL_law 1114 = .ok (.iadd, 1) := by decide +kernel
theorem dL_law_1115 : decode cL_law 1115 = .ok (.iaload, 1) := by decide +kernel
theorem dL_law_1116 : decode cL_law 1116 = .ok (.aload_n 0, 1) := by decide +kernel
theorem dL_law_1117 : decode cL_law 1117 = .ok (.iload_n 3, 1) := by decide +kernel
theorem dL_law_1118 : decode cL_law 1118 = .ok (.iconst 2, 1) := by decide +kernel
theorem dL_law_1119 : decode cL_law 1119 = .ok (.iadd, 1) := by decide +kernel
theorem dL_law_1120 : decode cL_law 1120 = .ok (.iaload, 1) := by decide +kernel
theorem dL_law_1121 : decode cL_law 1121 = .ok (.aload_n 0, 1) := by decide +kernel
theorem dL_law_1122 : decode cL_law 1122 = .ok (.iload_n 3, 1) := by decide +kernel
theorem dL_law_1123 : decode cL_law 1123 = .ok (.iconst 3, 1) := by decide +kernel
theorem dL_law_1124 : decode cL_law 1124 = .ok (.iadd, 1) := by decide +kernel
theorem dL_law_1125 : decode cL_law 1125 = .ok (.iaload, 1) := by decide +kernel
theorem dL_law_1126 : decode cL_law 1126 = .ok (.invokevirtual 117, 3) := by decide +kernel
theorem dL_law_1129 : decode cL_law 1129 = .ok (.if_icmp .eq 523, 3) := by decide +kernel
theorem dL_law_1134 : decode cL_law 1134 = .ok (.aload_n 1, 1) := by decide +kernel
theorem dL_law_1135 : decode cL_law 1135 = .ok (.aload_n 0, 1) := by decide +kernel
theorem dL_law_1136 : decode cL_law 1136 = .ok (.iload_n 3, 1) := by decide +kernel
theorem dL_law_1137 : decode cL_law 1137 = .ok (.iconst 1, 1) := by decide +kernel
theorem dL_law_1138 : decode cL_law 1138 = .ok (.iadd, 1) := by decide +kernel
theorem dL_law_1139 : decode cL_law 1139 = .ok (.iaload, 1) := by decide +kernel
theorem dL_law_1140 : decode cL_law 1140 = .ok (.aload_n 0, 1) := by decide +kernel
theorem dL_law_1141 : decode cL_law 1141 = .ok (.iload_n 3, 1) := by decide +kernel
theorem dL_law_1142 : decode cL_law 1142 = .ok (.iconst 2, 1) := by decide +kernel
theorem dL_law_1143 : decode cL_law 1143 = .ok (.iadd, 1) := by decide +kernel
theorem dL_law_1144 : decode cL_law 1144 = .ok (.iaload, 1) := by decide +kernel
theorem dL_law_1145 : decode cL_law 1145 = .ok (.invokevirtual 118, 3) := by decide +kernel
theorem dL_law_1148 : decode cL_law 1148 = .ok (.aload_n 2, 1) := by decide +kernel
theorem dL_law_1149 : decode cL_law 1149 = .ok (.aload_n 0, 1) := by decide +kernel
theorem dL_law_1150 : decode cL_law 1150 = .ok (.iload_n 3, 1) := by decide +kernel
theorem dL_law_1151 : decode cL_law 1151 = .ok (.iconst 1, 1) := by decide +kernel
theorem dL_law_1152 : decode cL_law 1152 = .ok (.iadd, 1) := by decide +kernel
theorem dL_law_1153 : decode cL_law 1153 = .ok (.iaload, 1) := by decide +kernel
theorem dL_law_1154 : decode cL_law 1154 = .ok (.aload_n 0, 1) := by decide +kernel
theorem dL_law_1155 : decode cL_law 1155 = .ok (.iload_n 3, 1) := by decide +kernel
theorem dL_law_1156 : decode cL_law 1156 = .ok (.iconst 2, 1) := by decide +kernel
theorem dL_law_1157 : decode cL_law 1157 = .ok (.iadd, 1) := by decide +kernel
theorem dL_law_1158 : decode cL_law 1158 = .ok (.iaload, 1) := by decide +kernel
theorem dL_law_1159 : decode cL_law 1159 = .ok (.invokevirtual 121, 3) := by decide +kernel
theorem dL_law_1162 : decode cL_law 1162 = .ok (.if_icmp .eq 490, 3) := by decide +kernel
theorem dL_law_1167 : decode cL_law 1167 = .ok (.aload_n 1, 1) := by decide +kernel
theorem dL_law_1168 : decode cL_law 1168 = .ok (.aload_n 0, 1) := by decide +kernel
theorem dL_law_1169 : decode cL_law 1169 = .ok (.iload_n 3, 1) := by decide +kernel
theorem dL_law_1170 : decode cL_law 1170 = .ok (.iconst 1, 1) := by decide +kernel
theorem dL_law_1171 : decode cL_law 1171 = .ok (.iadd, 1) := by decide +kernel
theorem dL_law_1172 : decode cL_law 1172 = .ok (.iaload, 1) := by decide +kernel
theorem dL_law_1173 : decode cL_law 1173 = .ok (.aload_n 0, 1) := by decide +kernel
theorem dL_law_1174 : decode cL_law 1174 = .ok (.iload_n 3, 1) := by decide +kernel
theorem dL_law_1175 : decode cL_law 1175 = .ok (.iconst 2, 1) := by decide +kernel
theorem dL_law_1176 : decode cL_law 1176 = .ok (.iadd, 1) := by decide +kernel
theorem dL_law_1177 : decode cL_law 1177 = .ok (.iaload, 1) := by decide +kernel
theorem dL_law_1178 : decode cL_law 1178 = .ok (.invokevirtual 122, 3) := by decide +kernel
theorem dL_law_1181 : decode cL_law 1181 = .ok (.aload_n 2, 1) := by decide +kernel
theorem dL_law_1182 : decode cL_law 1182 = .ok (.aload_n 0, 1) := by decide +kernel
theorem dL_law_1183 : decode cL_law 1183 = .ok (.iload_n 3, 1) := by decide +kernel
theorem dL_law_1184 : decode cL_law 1184 = .ok (.iconst 1, 1) := by decide +kernel
theorem dL_law_1185 : decode cL_law 1185 = .ok (.iadd, 1) := by decide +kernel
theorem dL_law_1186 : decode cL_law 1186 = .ok (.iaload, 1) := by decide +kernel
theorem dL_law_1187 : decode cL_law 1187 = .ok (.aload_n 0, 1) := by decide +kernel
theorem dL_law_1188 : decode cL_law 1188 = .ok (.iload_n 3, 1) := by decide +kernel
theorem dL_law_1189 : decode cL_law 1189 = .ok (.iconst 2, 1) := by decide +kernel
theorem dL_law_1190 : decode cL_law 1190 = .ok (.iadd, 1) := by decide +kernel
theorem dL_law_1191 : decode cL_law 1191 = .ok (.iaload, 1) := by decide +kernel
theorem dL_law_1192 : decode cL_law 1192 = .ok (.invokevirtual 125, 3) := by decide +kernel
theorem dL_law_1195 : decode cL_law 1195 = .ok (.if_icmp .eq 457, 3) := by decide +kernel
theorem dL_law_1200 : decode cL_law 1200 = .ok (.aload_n 1, 1) := by decide +kernel
theorem dL_law_1201 : decode cL_law 1201 = .ok (.aload_n 0, 1) := by decide +kernel
theorem dL_law_1202 : decode cL_law 1202 = .ok (.iload_n 3, 1) := by decide +kernel
theorem dL_law_1203 : decode cL_law 1203 = .ok (.iconst 1, 1) := by decide +kernel
theorem dL_law_1204 : decode cL_law 1204 = .ok (.iadd, 1) := by decide +kernel
theorem dL_law_1205 : decode cL_law 1205 = .ok (.iaload, 1) := by decide +kernel
theorem dL_law_1206 : decode cL_law 1206 = .ok (.aload_n 0, 1) := by decide +kernel
theorem dL_law_1207 : decode cL_law 1207 = .ok (.iload_n 3, 1) := by decide +kernel
theorem dL_law_1208 : decode cL_law 1208 = .ok (.iconst 2, 1) := by decide +kernel
theorem dL_law_1209 : decode cL_law 1209 = .ok (.iadd, 1) := by decide +kernel
theorem dL_law_1210 : decode cL_law 1210 = .ok (.iaload, 1) := by decide +kernel
theorem dL_law_1211 : decode cL_law 1211 = .ok (.aload_n 0, 1) := by decide +kernel
theorem dL_law_1212 : decode cL_law 1212 = .ok (.iload_n 3, 1) := by decide +kernel
theorem dL_law_1213 : decode cL_law 1213 = .ok (.iconst 3, 1) := by decide +kernel
theorem dL_law_1214 : decode cL_law 1214 = .ok (.iadd, 1) := by decide +kernel
theorem dL_law_1215 : decode cL_law 1215 = .ok (.iaload, 1) := by decide +kernel
theorem dL_law_1216 : decode cL_law 1216 = .ok (.invokevirtual 126, 3) := by decide +kernel
theorem dL_law_1219 : decode cL_law 1219 = .ok (.aload_n 2, 1) := by decide +kernel
theorem dL_law_1220 : decode cL_law 1220 = .ok (.aload_n 0, 1) := by decide +kernel
theorem dL_law_1221 : decode cL_law 1221 = .ok (.iload_n 3, 1) := by decide +kernel
theorem dL_law_1222 : decode cL_law 1222 = .ok (.iconst 1, 1) := by decide +kernel
theorem dL_law_1223 : decode cL_law 1223 = .ok (.iadd, 1) := by decide +kernel
theorem dL_law_1224 : decode cL_law 1224 = .ok (.iaload, 1) := by decide +kernel
theorem dL_law_1225 : decode cL_law 1225 = .ok (.aload_n 0, 1) := by decide +kernel
theorem dL_law_1226 : decode cL_law 1226 = .ok (.iload_n 3, 1) := by decide +kernel
theorem dL_law_1227 : decode cL_law 1227 = .ok (.iconst 2, 1) := by decide +kernel
theorem dL_law_1228 : decode cL_law 1228 = .ok (.iadd, 1) := by decide +kernel
theorem dL_law_1229 : decode cL_law 1229 = .ok (.iaload, 1) := by decide +kernel
theorem dL_law_1230 : decode cL_law 1230 = .ok (.aload_n 0, 1) := by decide +kernel
theorem dL_law_1231 : decode cL_law 1231 = .ok (.iload_n 3, 1) := by decide +kernel
theorem dL_law_1232 : decode cL_law 1232 = .ok (.iconst 3, 1) := by decide +kernel
theorem dL_law_1233 : decode cL_law 1233 = .ok (.iadd, 1) := by decide +kernel
theorem dL_law_1234 : decode cL_law 1234 = .ok (.iaload, 1) := by decide +kernel
theorem dL_law_1235 : decode cL_law 1235 = .ok (.invokevirtual 129, 3) := by decide +kernel
theorem dL_law_1238 : decode cL_law 1238 = .ok (.if_icmp .eq 414, 3) := by decide +kernel
theorem dL_law_1243 : decode cL_law 1243 = .ok (.aload_n 1, 1) := by decide +kernel
theorem dL_law_1244 : decode cL_law 1244 = .ok (.aload_n 0, 1) := by decide +kernel
theorem dL_law_1245 : decode cL_law 1245 = .ok (.iload_n 3, 1) := by decide +kernel
theorem dL_law_1246 : decode cL_law 1246 = .ok (.iconst 1, 1) := by decide +kernel
theorem dL_law_1247 : decode cL_law 1247 = .ok (.iadd, 1) := by decide +kernel
theorem dL_law_1248 : decode cL_law 1248 = .ok (.iaload, 1) := by decide +kernel
theorem dL_law_1249 : decode cL_law 1249 = .ok (.aload_n 0, 1) := by decide +kernel
theorem dL_law_1250 : decode cL_law 1250 = .ok (.iload_n 3, 1) := by decide +kernel
theorem dL_law_1251 : decode cL_law 1251 = .ok (.iconst 2, 1) := by decide +kernel
theorem dL_law_1252 : decode cL_law 1252 = .ok (.iadd, 1) := by decide +kernel
theorem dL_law_1253 : decode cL_law 1253 = .ok (.iaload, 1) := by decide +kernel
theorem dL_law_1254 : decode cL_law 1254 = .ok (.invokevirtual 130, 3) := by decide +kernel
theorem dL_law_1257 : decode cL_law 1257 = .ok (.aload_n 2, 1) := by decide +kernel
theorem dL_law_1258 : decode cL_law 1258 = .ok (.aload_n 0, 1) := by decide +kernel
theorem dL_law_1259 : decode cL_law 1259 = .ok (.iload_n 3, 1) := by decide +kernel
theorem dL_law_1260 : decode cL_law 1260 = .ok (.iconst 1, 1) := by decide +kernel
theorem dL_law_1261 : decode cL_law 1261 = .ok (.iadd, 1) := by decide +kernel
theorem dL_law_1262 : decode cL_law 1262 = .ok (.iaload, 1) := by decide +kernel
theorem dL_law_1263 : decode cL_law 1263 = .ok (.aload_n 0, 1) := by decide +kernel
theorem dL_law_1264 : decode cL_law 1264 = .ok (.iload_n 3, 1) := by decide +kernel
theorem dL_law_1265 : decode cL_law 1265 = .ok (.iconst 2, 1) := by decide +kernel
theorem dL_law_1266 : decode cL_law 1266 = .ok (.iadd, 1) := by decide +kernel
theorem dL_law_1267 : decode cL_law 1267 = .ok (.iaload, 1) := by decide +kernel
theorem dL_law_1268 : decode cL_law 1268 = .ok (.invokevirtual 133, 3) := by decide +kernel
theorem dL_law_1271 : decode cL_law 1271 = .ok (.if_icmp .eq 381, 3) := by decide +kernel
theorem dL_law_1276 : decode cL_law 1276 = .ok (.aload_n 1, 1) := by decide +kernel
theorem dL_law_1277 : decode cL_law 1277 = .ok (.aload_n 0, 1) := by decide +kernel
theorem dL_law_1278 : decode cL_law 1278 = .ok (.iload_n 3, 1) := by decide +kernel
theorem dL_law_1279 : decode cL_law 1279 = .ok (.iconst 1, 1) := by decide +kernel
theorem dL_law_1280 : decode cL_law 1280 = .ok (.iadd, 1) := by decide +kernel
theorem dL_law_1281 : decode cL_law 1281 = .ok (.iaload, 1) := by decide +kernel
theorem dL_law_1282 : decode cL_law 1282 = .ok (.aload_n 0, 1) := by decide +kernel
theorem dL_law_1283 : decode cL_law 1283 = .ok (.iload_n 3, 1) := by decide +kernel
theorem dL_law_1284 : decode cL_law 1284 = .ok (.iconst 2, 1) := by decide +kernel
theorem dL_law_1285 : decode cL_law 1285 = .ok (.iadd, 1) := by decide +kernel
theorem dL_law_1286 : decode cL_law 1286 = .ok (.iaload, 1) := by decide +kernel
theorem dL_law_1287 : decode cL_law 1287 = .ok (.aload_n 0, 1) := by decide +kernel
theorem dL_law_1288 : decode cL_law 1288 = .ok (.iload_n 3, 1) := by decide +kernel
theorem dL_law_1289 : decode cL_law 1289 = .ok (.iconst 3, 1) := by decide +kernel
theorem dL_law_1290 : decode cL_law 1290 = .ok (.iadd, 1) := by decide +kernel
theorem dL_law_1291 : decode cL_law 1291 = .ok (.iaload, 1) := by decide +kernel
theorem dL_law_1292 : decode cL_law 1292 = .ok (.aload_n 0, 1) := by decide +kernel
theorem dL_law_1293 : decode cL_law 1293 = .ok (.iload_n 3, 1) := by decide +kernel
theorem dL_law_1294 : decode cL_law 1294 = .ok (.iconst 4, 1) := by decide +kernel
theorem dL_law_1295 : decode cL_law 1295 = .ok (.iadd, 1) := by decide +kernel
theorem dL_law_1296 : decode cL_law 1296 = .ok (.iaload, 1) := by decide +kernel
theorem dL_law_1297 : decode cL_law 1297 = .ok (.invokevirtual 134, 3) := by decide +kernel
theorem dL_law_1300 : decode cL_law 1300 = .ok (.aload_n 2, 1) := by decide +kernel
theorem dL_law_1301 : decode cL_law 1301 = .ok (.aload_n 0, 1) := by decide +kernel
theorem dL_law_1302 : decode cL_law 1302 = .ok (.iload_n 3, 1) := by decide +kernel
theorem dL_law_1303 : decode cL_law 1303 = .ok (.iconst 1, 1) := by decide +kernel
theorem dL_law_1304 : decode cL_law 1304 = .ok (.iadd, 1) := by decide +kernel
theorem dL_law_1305 : decode cL_law 1305 = .ok (.iaload, 1) := by decide +kernel
theorem dL_law_1306 : decode cL_law 1306 = .ok (.aload_n 0, 1) := by decide +kernel
theorem dL_law_1307 : decode cL_law 1307 = .ok (.iload_n 3, 1) := by decide +kernel
theorem dL_law_1308 : decode cL_law 1308 = .ok (.iconst 2, 1) := by decide +kernel
theorem dL_law_1309 : decode cL_law 1309 = .ok (.iadd, 1) := by decide +kernel
theorem dL_law_1310 : decode cL_law 1310 = .ok (.iaload, 1) := by decide +kernel
theorem dL_law_1311 : decode cL_law 1311 = .ok (.aload_n 0, 1) := by decide +kernel
theorem dL_law_1312 : decode cL_law 1312 = .ok (.iload_n 3, 1) := by decide +kernel
theorem dL_law_1313 : decode cL_law 1313 = .ok (.iconst 3, 1) := by decide +kernel
theorem dL_law_1314 : decode cL_law 1314 = .ok (.iadd, 1) := by decide +kernel
theorem dL_law_1315 : decode cL_law 1315 = .ok (.iaload, 1) := by decide +kernel
theorem dL_law_1316 : decode cL_law 1316 = .ok (.aload_n 0, 1) := by decide +kernel
theorem dL_law_1317 : decode cL_law 1317 = .ok (.iload_n 3, 1) := by decide +kernel
theorem dL_law_1318 : decode cL_law 1318 = .ok (.iconst 4, 1) := by decide +kernel
theorem dL_law_1319 : decode cL_law 1319 = .ok (.iadd, 1) := by decide +kernel
theorem dL_law_1320 : decode cL_law 1320 = .ok (.iaload, 1) := by decide +kernel
theorem dL_law_1321 : decode cL_law 1321 = .ok (.invokevirtual 137, 3) := by decide +kernel
theorem dL_law_1324 : decode cL_law 1324 = .ok (.if_icmp .eq 328, 3) := by decide +kernel
theorem dL_law_1329 : decode cL_law 1329 = .ok (.aload_n 1, 1) := by decide +kernel
theorem dL_law_1330 : decode cL_law 1330 = .ok (.aload_n 0, 1) := by decide +kernel
theorem dL_law_1331 : decode cL_law 1331 = .ok (.iload_n 3, 1) := by decide +kernel
theorem dL_law_1332 : decode cL_law 1332 = .ok (.iconst 1, 1) := by decide +kernel
theorem dL_law_1333 : decode cL_law 1333 = .ok (.iadd, 1) := by decide +kernel
theorem dL_law_1334 : decode cL_law 1334 = .ok (.iaload, 1) := by decide +kernel
theorem dL_law_1335 : decode cL_law 1335 = .ok (.aload_n 0, 1) := by decide +kernel
theorem dL_law_1336 : decode cL_law 1336 = .ok (.iload_n 3, 1) := by decide +kernel
theorem dL_law_1337 : decode cL_law 1337 = .ok (.iconst 2, 1) := by decide +kernel
theorem dL_law_1338 : decode cL_law 1338 = .ok (.iadd, 1) := by decide +kernel
theorem dL_law_1339 : decode cL_law 1339 = .ok (.iaload, 1) := by decide +kernel
theorem dL_law_1340 : decode cL_law 1340 = .ok (.aload_n 0, 1) := by decide +kernel
theorem dL_law_1341 : decode cL_law 1341 = .ok (.iload_n 3, 1) := by decide +kernel
theorem dL_law_1342 : decode cL_law 1342 = .ok (.iconst 3, 1) := by decide +kernel
theorem dL_law_1343 : decode cL_law 1343 = .ok (.iadd, 1) := by decide +kernel
theorem dL_law_1344 : decode cL_law 1344 = .ok (.iaload, 1) := by decide +kernel
theorem dL_law_1345 : decode cL_law 1345 = .ok (.aload_n 0, 1) := by decide +kernel
theorem dL_law_1346 : decode cL_law 1346 = .ok (.iload_n 3, 1) := by decide +kernel
theorem dL_law_1347 : decode cL_law 1347 = .ok (.iconst 4, 1) := by decide +kernel
theorem dL_law_1348 : decode cL_law 1348 = .ok (.iadd, 1) := by decide +kernel
theorem dL_law_1349 : decode cL_law 1349 = .ok (.iaload, 1) := by decide +kernel
theorem dL_law_1350 : decode cL_law 1350 = .ok (.invokevirtual 138, 3) := by decide +kernel
theorem dL_law_1353 : decode cL_law 1353 = .ok (.aload_n 2, 1) := by decide +kernel
theorem dL_law_1354 : decode cL_law 1354 = .ok (.aload_n 0, 1) := by decide +kernel
theorem dL_law_1355 : decode cL_law 1355 = .ok (.iload_n 3, 1) := by decide +kernel
theorem dL_law_1356 : decode cL_law 1356 = .ok (.iconst 1, 1) := by decide +kernel
theorem dL_law_1357 : decode cL_law 1357 = .ok (.iadd, 1) := by decide +kernel
theorem dL_law_1358 : decode cL_law 1358 = .ok (.iaload, 1) := by decide +kernel
theorem dL_law_1359 : decode cL_law 1359 = .ok (.aload_n 0, 1) := by decide +kernel
theorem dL_law_1360 : decode cL_law 1360 = .ok (.iload_n 3, 1) := by decide +kernel
theorem dL_law_1361 : decode cL_law 1361 = .ok (.iconst 2, 1) := by decide +kernel
theorem dL_law_1362 : decode cL_law 1362 = .ok (.iadd, 1) := by decide +kernel
theorem dL_law_1363 : decode cL_law 1363 = .ok (.iaload, 1) := by decide +kernel
theorem dL_law_1364 : decode cL_law 1364 = .ok (.aload_n 0, 1) := by decide +kernel
theorem dL_law_1365 : decode cL_law 1365 = .ok (.iload_n 3, 1) := by decide +kernel
theorem dL_law_1366 : decode cL_law 1366 = .ok (.iconst 3, 1) := by decide +kernel
theorem dL_law_1367 : decode cL_law 1367 = .ok (.iadd, 1) := by decide +kernel
theorem dL_law_1368 : decode cL_law 1368 = .ok (.iaload, 1) := by decide +kernel
theorem dL_law_1369 : decode cL_law 1369 = .ok (.aload_n 0, 1) := by decide +kernel
theorem dL_law_1370 : decode cL_law 1370 = .ok (.iload_n 3, 1) := by decide +kernel
theorem dL_law_1371 : decode cL_law 1371 = .ok (.iconst 4, 1) := by decide +kernel
theorem dL_law_1372 : decode cL_law 1372 = .ok (.iadd, 1) := by decide +kernel
theorem dL_law_1373 : decode cL_law 1373 = .ok (.iaload, 1) := by decide +kernel
theorem dL_law_1374 : decode cL_law 1374 = .ok (.invokevirtual 141, 3) := by decide +kernel
theorem dL_law_1377 : decode cL_law 1377 = .ok (.if_icmp .eq 275, 3) := by decide +kernel
theorem dL_law_1382 : decode cL_law 1382 = .ok (.aload_n 1, 1) := by decide +kernel
theorem dL_law_1383 : decode cL_law 1383 = .ok (.aload_n 0, 1) := by decide +kernel
theorem dL_law_1384 : decode cL_law 1384 = .ok (.iload_n 3, 1) := by decide +kernel
theorem dL_law_1385 : decode cL_law 1385 = .ok (.iconst 1, 1) := by decide +kernel
theorem dL_law_1386 : decode cL_law 1386 = .ok (.iadd, 1) := by decide +kernel
theorem dL_law_1387 : decode cL_law 1387 = .ok (.iaload, 1) := by decide +kernel
theorem dL_law_1388 : decode cL_law 1388 = .ok (.invokevirtual 142, 3) := by decide +kernel
theorem dL_law_1391 : decode cL_law 1391 = .ok (.aload_n 2, 1) := by decide +kernel
theorem dL_law_1392 : decode cL_law 1392 = .ok (.aload_n 0, 1) := by decide +kernel
theorem dL_law_1393 : decode cL_law 1393 = .ok (.iload_n 3, 1) := by decide +kernel
theorem dL_law_1394 : decode cL_law 1394 = .ok (.iconst 1, 1) := by decide +kernel
theorem dL_law_1395 : decode cL_law 1395 = .ok (.iadd, 1) := by decide +kernel
theorem dL_law_1396 : decode cL_law 1396 = .ok (.iaload, 1) := by decide +kernel
theorem dL_law_1397 : decode cL_law 1397 = .ok (.invokevirtual 145, 3) := by decide +kernel
theorem dL_law_1400 : decode cL_law 1400 = .ok (.if_icmp .eq 252, 3) := by decide +kernel
theorem dL_law_1405 : decode cL_law 1405 = .ok (.aload_n 1, 1) := by decide +kernel
theorem dL_law_1406 : decode cL_law 1406 = .ok (.aload_n 0, 1) := by decide +kernel
theorem dL_law_1407 : decode cL_law 1407 = .ok (.iload_n 3, 1) := by decide +kernel
theorem dL_law_1408 : decode cL_law 1408 = .ok (.iconst 1, 1) := by decide +kernel
theorem dL_law_1409 : decode cL_law 1409 = .ok (.iadd, 1) := by decide +kernel
theorem dL_law_1410 : decode cL_law 1410 = .ok (.iaload, 1) := by decide +kernel
theorem dL_law_1411 : decode cL_law 1411 = .ok (.aload_n 0, 1) := by decide +kernel
theorem dL_law_1412 : decode cL_law 1412 = .ok (.iload_n 3, 1) := by decide +kernel
theorem dL_law_1413 : decode cL_law 1413 = .ok (.iconst 2, 1) := by decide +kernel
theorem dL_law_1414 : decode cL_law 1414 = .ok (.iadd, 1) := by decide +kernel
theorem dL_law_1415 : decode cL_law 1415 = .ok (.iaload, 1) := by decide +kernel
theorem dL_law_1416 : decode cL_law 1416 = .ok (.aload_n 0, 1) := by decide +kernel
theorem dL_law_1417 : decode cL_law 1417 = .ok (.iload_n 3, 1) := by decide +kernel
theorem dL_law_1418 : decode cL_law 1418 = .ok (.iconst 3, 1) := by decide +kernel
theorem dL_law_1419 : decode cL_law 1419 = .ok (.iadd, 1) := by decide +kernel
theorem dL_law_1420 : decode cL_law 1420 = .ok (.iaload, 1) := by decide +kernel
theorem dL_law_1421 : decode cL_law 1421 = .ok (.invokevirtual 146, 3) := by decide +kernel
theorem dL_law_1424 : decode cL_law 1424 = .ok (.aload_n 2, 1) := by decide +kernel
theorem dL_law_1425 : decode cL_law 1425 = .ok (.aload_n 0, 1) := by decide +kernel
theorem dL_law_1426 : decode cL_law 1426 = .ok (.iload_n 3, 1) := by decide +kernel
theorem dL_law_1427 : decode cL_law 1427 = .ok (.iconst 1, 1) := by decide +kernel
theorem dL_law_1428 : decode cL_law 1428 = .ok (.iadd, 1) := by decide +kernel
theorem dL_law_1429 : decode cL_law 1429 = .ok (.iaload, 1) := by decide +kernel
theorem dL_law_1430 : decode cL_law 1430 = .ok (.aload_n 0, 1) := by decide +kernel
theorem dL_law_1431 : decode cL_law 1431 = .ok (.iload_n 3, 1) := by decide +kernel
theorem dL_law_1432 : decode cL_law 1432 = .ok (.iconst 2, 1) := by decide +kernel
theorem dL_law_1433 : decode cL_law 1433 = .ok (.iadd, 1) := by decide +kernel
theorem dL_law_1434 : decode cL_law 1434 = .ok (.iaload, 1) := by decide +kernel
theorem dL_law_1435 : decode cL_law 1435 = .ok (.aload_n 0, 1) := by decide +kernel
theorem dL_law_1436 : decode cL_law 1436 = .ok (.iload_n 3, 1) := by decide +kernel
theorem dL_law_1437 : decode cL_law 1437 = .ok (.iconst 3, 1) := by decide +kernel
theorem dL_law_1438 : decode cL_law 1438 = .ok (.iadd, 1) := by decide +kernel
theorem dL_law_1439 : decode cL_law 1439 = .ok (.iaload, 1) := by decide +kernel
theorem dL_law_1440 : decode cL_law 1440 = .ok (.invokevirtual 149, 3) := by decide +kernel
theorem dL_law_1443 : decode cL_law 1443 = .ok (.if_icmp .eq 209, 3) := by decide +kernel
set_option maxHeartbeats 4000000 in
set_option maxRecDepth 100000 in
theorem law_case_20 {p : Program} {l : Launch} {e : Env} {s : State} {m : MethodId} {below : List Frame} {meth : Method} {c : Code} {D : va_G} {cI cY cJ cQ : ClassId} {b : Nat} {xs : Nat → Int32} {ad rw md : Nat → Nat} {sd : Int32} {H : Heap} {locs : List Loc} {ls : Array Slot} (C0 : lawC p s m meth c b xs D cI cY cJ cQ) (hP : va_P D vwCl [((ad 0), .inr (10, [.ref (ad 1), .ref (ad 2), .ref (ad 3), .ref (ad 4), .ref (ad 5), .ref (ad 6), .ref (ad 7), .ref (ad 8), .ref (ad 9), .ref (ad 10), .ref (ad 11), .int 0, .int 0, .int 0])), ((ad 3), .inr (1, [.ref (ad 31), .ref (ad 32), .ref (ad 33), .int 0, .ref (ad 34), .ref (ad 35)])), ((md 64), .inr (11, [.int 0, .long (sd.toInt64), .int 0, .ref (md 3), .ref (md 4), .ref (md 5), .int 0, .ref (md 7), .ref (md 8), .ref (md 9), .ref (md 10), .ref (md 11), .ref (md 12), .ref (md 13), .ref (md 14), .int 0, .ref (md 16), .ref (md 17), .int 0, .ref (md 19), .ref (md 20), .ref (md 21), .ref (md 22), .ref (md 23), .int 0, .int 0, .ref (md 26), .ref (md 27), .ref (md 28), .ref (md 29), .int 0, .ref (md 31), .int 0, .ref (md 33), .ref (md 34), .int 0, .int 0, .int 0, .int 0, .int 0, .int 0, .int 0, .int 0, .int 0, .int 0, .ref (md 45), .ref (md 46), .ref (md 47), .ref (md 48), .ref (md 49), .ref (md 50), .ref (md 51), .int 0, .ref (md 53), .ref (md 54), .ref (md 55), .ref (md 56), .int 0, .ref (md 58), .ref (md 59), .ref (md 60), .int 0, .ref (md 62), .int 0]))] H) (hD : va_D (fun q : Nat => s.heap.size ≤ q) [((ad 0), .inr (10, [.ref (ad 1), .ref (ad 2), .ref (ad 3), .ref (ad 4), .ref (ad 5), .ref (ad 6), .ref (ad 7), .ref (ad 8), .ref (ad 9), .ref (ad 10), .ref (ad 11), .int 0, .int 0, .int 0])), ((ad 3), .inr (1, [.ref (ad 31), .ref (ad 32), .ref (ad 33), .int 0, .ref (ad 34), .ref (ad 35)])), ((md 64), .inr (11, [.int 0, .long (sd.toInt64), .int 0, .ref (md 3), .ref (md 4), .ref (md 5), .int 0, .ref (md 7), .ref (md 8), .ref (md 9), .ref (md 10), .ref (md 11), .ref (md 12), .ref (md 13), .ref (md 14), .int 0, .ref (md 16), .ref (md 17), .int 0, .ref (md 19), .ref (md 20), .ref (md 21), .ref (md 22), .ref (md 23), .int 0, .int 0, .ref (md 26), .ref (md 27), .ref (md 28), .ref (md 29), .int 0, .ref (md 31), .int 0, .ref (md 33), .ref (md 34), .int 0, .int 0, .int 0, .int 0, .int 0, .int 0, .int 0, .int 0, .int 0, .int 0, .ref (md 45), .ref (md 46), .ref (md 47), .ref (md 48), .ref (md 49), .ref (md 50), .ref (md 51), .int 0, .ref (md 53), .ref (md 54), .ref (md 55), .ref (md 56), .int 0, .ref (md 58), .ref (md 59), .ref (md 60), .int 0, .ref (md 62), .int 0]))]) (hS : va_S (fun q : Nat => s.heap.size ≤ q) s.heap H locs) (hl : lv_has ls 4 [(0, .ref b), (1, .ref (ad 0)), (2, .ref (md 64)), (3, .int 1)]) : W p l e room_1 s m #[Value.ref b] below meth c H locs 107 4890 (lw_Z below #[Value.ref b] s) (F0 m 1058 ls []) := by
  have C0k := C0
  obtain ⟨C1, hK, hN⟩ := C0
  obtain ⟨hx, hb, hr, hml, hown, hts0, hX, hbl, hlocks, hgv⟩ := C1
  have hA : ∀ q : Nat, s.heap.size ≤ q → (fun q : Nat => s.heap.size ≤ q) q := fun _ h => h
  have hbA : ¬ (fun q : Nat => s.heap.size ≤ q) b := Nat.not_le.mpr hbl
  have hts : ∀ w ∈ wsL_law, w.before #[Value.ref b] s = true := fun w h => hts0 w (wsL_law_in w h)
  replace hown : s.vm.findClass RL = some m.cls := hown
  replace hb : c.code = cL_law := hb
  have hLI : (Int32.ofNat 7).toInt = 7 := by decide
  refine lv_aload_n hx hb dL_law_1058 rfl (lv_at hl 1 rfl) ?_
  refine lv_aload_n hx hb dL_law_1059 rfl (lv_at hl 0 rfl) ?_
  refine lv_iload_n hx hb dL_law_1060 rfl (lv_at hl 3 rfl) ?_
  refine lv_iconst (v := 1) hx hb dL_law_1061 (by decide) ?_
  refine lv_iadd hx hb dL_law_1062 ?_
  refine lv_topi (fun v1 ev1 => ?_)
  replace ev1 : v1 = 2 := ev1.trans (by decide)
  subst ev1
  refine va_sld hx hb hX hbl hbA hS (i_in (by decide) (by decide)) dL_law_1063 ?_
  refine lv_aload_n hx hb dL_law_1064 rfl (lv_at hl 0 rfl) ?_
  refine lv_iload_n hx hb dL_law_1065 rfl (lv_at hl 3 rfl) ?_
  refine lv_iconst (v := 2) hx hb dL_law_1066 (by decide) ?_
  refine lv_iadd hx hb dL_law_1067 ?_
  refine lv_topi (fun v2 ev2 => ?_)
  replace ev2 : v2 = 3 := ev2.trans (by decide)
  subst ev2
  refine va_sld hx hb hX hbl hbA hS (i_in (by decide) (by decide)) dL_law_1068 ?_
  refine st_i (wr := [((md 64), .inr (11, [.int 0, .long (sd.toInt64), .int 0, .ref (md 3), .ref (md 4), .ref (md 5), .int 0, .ref (md 7), .ref (md 8), .ref (md 9), .ref (md 10), .ref (md 11), .ref (md 12), .ref (md 13), .ref (md 14), .int 0, .ref (md 16), .ref (md 17), .int 0, .ref (md 19), .ref (md 20), .ref (md 21), .ref (md 22), .ref (md 23), .int 0, .int 0, .ref (md 26), .ref (md 27), .ref (md 28), .ref (md 29), .int 0, .ref (md 31), .int 0, .ref (md 33), .ref (md 34), .int 0, .int 0, .int 0, .int 0, .int 0, .int 0, .int 0, .int 0, .int 0, .int 0, .ref (md 45), .ref (md 46), .ref (md 47), .ref (md 48), .ref (md 49), .ref (md 50), .ref (md 51), .int 0, .ref (md 53), .ref (md 54), .ref (md 55), .ref (md 56), .int 0, .ref (md 58), .ref (md 59), .ref (md 60), .int 0, .ref (md 62), .int 0]))]) (va_runV (C := RX10) (As := [.int (xs ((2 : Int32).toNatClampNeg)), .int (xs ((3 : Int32).toNatClampNeg))]) (rest := []) ⟨hx, hb, hml, hown, hts⟩ (ct_X10_duty l D cI cY cJ cQ _ ad (xs ((2 : Int32).toNatClampNeg)) (xs ((3 : Int32).toNatClampNeg))) (cwV 2 hts gL_law_X10_duty rfl rfl rfl (by decide +kernel) ⟨Nat.le_of_ble_eq_true rfl, Nat.le_of_ble_eq_true rfl⟩) (cPreV (hP.sub [0, 1] rfl) hK (hD.sub [0, 1] (by decide) rfl) hN (ci := 10) (q0 := 0) rfl rfl) rfl rfl hl.1 rfl (lv_room (Nat.le_of_ble_eq_true rfl)) dL_law_1069 ⟨Nat.le_of_ble_eq_true rfl, Nat.le_of_ble_eq_true rfl⟩) hP hD hS hA [0, 1] [2] rfl rfl (by decide) (by decide) (fun r5 u3 H locs hw4 hP hD hS => ?_)
  replace hP : va_P D vwCl [((md 64), .inr (11, [.int 0, .long (sd.toInt64), .int 0, .ref (md 3), .ref (md 4), .ref (md 5), .int 0, .ref (md 7), .ref (md 8), .ref (md 9), .ref (md 10), .ref (md 11), .ref (md 12), .ref (md 13), .ref (md 14), .int 0, .ref (md 16), .ref (md 17), .int 0, .ref (md 19), .ref (md 20), .ref (md 21), .ref (md 22), .ref (md 23), .int 0, .int 0, .ref (md 26), .ref (md 27), .ref (md 28), .ref (md 29), .int 0, .ref (md 31), .int 0, .ref (md 33), .ref (md 34), .int 0, .int 0, .int 0, .int 0, .int 0, .int 0, .int 0, .int 0, .int 0, .int 0, .ref (md 45), .ref (md 46), .ref (md 47), .ref (md 48), .ref (md 49), .ref (md 50), .ref (md 51), .int 0, .ref (md 53), .ref (md 54), .ref (md 55), .ref (md 56), .int 0, .ref (md 58), .ref (md 59), .ref (md 60), .int 0, .ref (md 62), .int 0]))] H := hP
  replace hD : va_D (fun q : Nat => s.heap.size ≤ q) [((md 64), .inr (11, [.int 0, .long (sd.toInt64), .int 0, .ref (md 3), .ref (md 4), .ref (md 5), .int 0, .ref (md 7), .ref (md 8), .ref (md 9), .ref (md 10), .ref (md 11), .ref (md 12), .ref (md 13), .ref (md 14), .int 0, .ref (md 16), .ref (md 17), .int 0, .ref (md 19), .ref (md 20), .ref (md 21), .ref (md 22), .ref (md 23), .int 0, .int 0, .ref (md 26), .ref (md 27), .ref (md 28), .ref (md 29), .int 0, .ref (md 31), .int 0, .ref (md 33), .ref (md 34), .int 0, .int 0, .int 0, .int 0, .int 0, .int 0, .int 0, .int 0, .int 0, .int 0, .ref (md 45), .ref (md 46), .ref (md 47), .ref (md 48), .ref (md 49), .ref (md 50), .ref (md 51), .int 0, .ref (md 53), .ref (md 54), .ref (md 55), .ref (md 56), .int 0, .ref (md 58), .ref (md 59), .ref (md 60), .int 0, .ref (md 62), .int 0]))] := hD
  refine lv_aload_n hx hb dL_law_1072 rfl (lv_at hl 2 rfl) ?_
  refine lv_aload_n hx hb dL_law_1073 rfl (lv_at hl 0 rfl) ?_
  refine lv_iload_n hx hb dL_law_1074 rfl (lv_at hl 3 rfl) ?_
  refine lv_iconst (v := 1) hx hb dL_law_1075 (by decide) ?_
  refine lv_iadd hx hb dL_law_1076 ?_
  refine lv_topi (fun v6 ev6 => ?_)
  replace ev6 : v6 = 2 := ev6.trans (by decide)
  subst ev6
  refine va_sld hx hb hX hbl hbA hS (i_in (by decide) (by decide)) dL_law_1077 ?_
  refine lv_aload_n hx hb dL_law_1078 rfl (lv_at hl 0 rfl) ?_
  refine lv_iload_n hx hb dL_law_1079 rfl (lv_at hl 3 rfl) ?_
  refine lv_iconst (v := 2) hx hb dL_law_1080 (by decide) ?_
  refine lv_iadd hx hb dL_law_1081 ?_
  refine lv_topi (fun v7 ev7 => ?_)
  replace ev7 : v7 = 3 := ev7.trans (by decide)
  subst ev7
  refine va_sld hx hb hX hbl hbA hS (i_in (by decide) (by decide)) dL_law_1082 ?_
  refine st_i (wr := []) (va_runV (C := RX11) (As := [.int (xs ((2 : Int32).toNatClampNeg)), .int (xs ((3 : Int32).toNatClampNeg))]) (rest := [.int r5]) ⟨hx, hb, hml, hown, hts⟩ (ct_X11_duty l D cI cY cJ cQ _ md sd (xs ((2 : Int32).toNatClampNeg)) (xs ((3 : Int32).toNatClampNeg))) (cwV 2 hts gL_law_X11_duty rfl rfl rfl (by decide +kernel) ⟨Nat.le_of_ble_eq_true rfl, Nat.le_of_ble_eq_true rfl⟩) (cPreV (hP.sub [0] rfl) hK (hD.sub [0] (by decide) rfl) hN (ci := 11) (q0 := 0) rfl rfl) rfl rfl hl.1 rfl (lv_room (Nat.le_of_ble_eq_true rfl)) dL_law_1083 ⟨Nat.le_of_ble_eq_true rfl, Nat.le_of_ble_eq_true rfl⟩) hP hD hS hA [0] [] rfl rfl (by decide) (by decide) (fun r10 u8 H locs hw9 hP hD hS => ?_)
  replace hP : va_P D vwCl [] H := hP
  replace hD : va_D (fun q : Nat => s.heap.size ≤ q) [] := hD
  refine lv_icmp_eq (tgt := 1652) hx hb dL_law_1086 (by decide) (fun _ => ?_) (fun c11 => by exfalso; exact c11 (hw4.trans hw9.symm))
  exact law_tail C0k hS (lv_sub hl [0, 3] rfl)

set_option maxHeartbeats 4000000 in
set_option maxRecDepth 100000 in
theorem law_case_21 {p : Program} {l : Launch} {e : Env} {s : State} {m : MethodId} {below : List Frame} {meth : Method} {c : Code} {D : va_G} {cI cY cJ cQ : ClassId} {b : Nat} {xs : Nat → Int32} {ad rw md : Nat → Nat} {sd : Int32} {H : Heap} {locs : List Loc} {ls : Array Slot} (C0 : lawC p s m meth c b xs D cI cY cJ cQ) (hP : va_P D vwCl [((ad 0), .inr (10, [.ref (ad 1), .ref (ad 2), .ref (ad 3), .ref (ad 4), .ref (ad 5), .ref (ad 6), .ref (ad 7), .ref (ad 8), .ref (ad 9), .ref (ad 10), .ref (ad 11), .int 0, .int 0, .int 0])), ((ad 3), .inr (1, [.ref (ad 31), .ref (ad 32), .ref (ad 33), .int 0, .ref (ad 34), .ref (ad 35)])), ((ad 34), .inl (cI, 6, .inl (fun _ => 4))), ((ad 35), .inl (cI, 6, .inl (fun _ => 100000))), ((md 64), .inr (11, [.int 0, .long (sd.toInt64), .int 0, .ref (md 3), .ref (md 4), .ref (md 5), .int 0, .ref (md 7), .ref (md 8), .ref (md 9), .ref (md 10), .ref (md 11), .ref (md 12), .ref (md 13), .ref (md 14), .int 0, .ref (md 16), .ref (md 17), .int 0, .ref (md 19), .ref (md 20), .ref (md 21), .ref (md 22), .ref (md 23), .int 0, .int 0, .ref (md 26), .ref (md 27), .ref (md 28), .ref (md 29), .int 0, .ref (md 31), .int 0, .ref (md 33), .ref (md 34), .int 0, .int 0, .int 0, .int 0, .int 0, .int 0, .int 0, .int 0, .int 0, .int 0, .ref (md 45), .ref (md 46), .ref (md 47), .ref (md 48), .ref (md 49), .ref (md 50), .ref (md 51), .int 0, .ref (md 53), .ref (md 54), .ref (md 55), .ref (md 56), .int 0, .ref (md 58), .ref (md 59), .ref (md 60), .int 0, .ref (md 62), .int 0])), ((md 49), .inl (cI, 6, .inl (fun _ => 4))), ((md 50), .inl (cI, 6, .inl (fun _ => 100000)))] H) (hD : va_D (fun q : Nat => s.heap.size ≤ q) [((ad 0), .inr (10, [.ref (ad 1), .ref (ad 2), .ref (ad 3), .ref (ad 4), .ref (ad 5), .ref (ad 6), .ref (ad 7), .ref (ad 8), .ref (ad 9), .ref (ad 10), .ref (ad 11), .int 0, .int 0, .int 0])), ((ad 3), .inr (1, [.ref (ad 31), .ref (ad 32), .ref (ad 33), .int 0, .ref (ad 34), .ref (ad 35)])), ((ad 34), .inl (cI, 6, .inl (fun _ => 4))), ((ad 35), .inl (cI, 6, .inl (fun _ => 100000))), ((md 64), .inr (11, [.int 0, .long (sd.toInt64), .int 0, .ref (md 3), .ref (md 4), .ref (md 5), .int 0, .ref (md 7), .ref (md 8), .ref (md 9), .ref (md 10), .ref (md 11), .ref (md 12), .ref (md 13), .ref (md 14), .int 0, .ref (md 16), .ref (md 17), .int 0, .ref (md 19), .ref (md 20), .ref (md 21), .ref (md 22), .ref (md 23), .int 0, .int 0, .ref (md 26), .ref (md 27), .ref (md 28), .ref (md 29), .int 0, .ref (md 31), .int 0, .ref (md 33), .ref (md 34), .int 0, .int 0, .int 0, .int 0, .int 0, .int 0, .int 0, .int 0, .int 0, .int 0, .ref (md 45), .ref (md 46), .ref (md 47), .ref (md 48), .ref (md 49), .ref (md 50), .ref (md 51), .int 0, .ref (md 53), .ref (md 54), .ref (md 55), .ref (md 56), .int 0, .ref (md 58), .ref (md 59), .ref (md 60), .int 0, .ref (md 62), .int 0])), ((md 49), .inl (cI, 6, .inl (fun _ => 4))), ((md 50), .inl (cI, 6, .inl (fun _ => 100000)))]) (hS : va_S (fun q : Nat => s.heap.size ≤ q) s.heap H locs) (hl : lv_has ls 4 [(0, .ref b), (1, .ref (ad 0)), (2, .ref (md 64)), (3, .int 1)]) : W p l e room_1 s m #[Value.ref b] below meth c H locs 107 4890 (lw_Z below #[Value.ref b] s) (F0 m 1091 ls []) := by
  have C0k := C0
  obtain ⟨C1, hK, hN⟩ := C0
  obtain ⟨hx, hb, hr, hml, hown, hts0, hX, hbl, hlocks, hgv⟩ := C1
  have hA : ∀ q : Nat, s.heap.size ≤ q → (fun q : Nat => s.heap.size ≤ q) q := fun _ h => h
  have hbA : ¬ (fun q : Nat => s.heap.size ≤ q) b := Nat.not_le.mpr hbl
  have hts : ∀ w ∈ wsL_law, w.before #[Value.ref b] s = true := fun w h => hts0 w (wsL_law_in w h)
  replace hown : s.vm.findClass RL = some m.cls := hown
  replace hb : c.code = cL_law := hb
  have hLI : (Int32.ofNat 7).toInt = 7 := by decide
  refine lv_aload_n hx hb dL_law_1091 rfl (lv_at hl 1 rfl) ?_
  refine lv_aload_n hx hb dL_law_1092 rfl (lv_at hl 0 rfl) ?_
  refine lv_iload_n hx hb dL_law_1093 rfl (lv_at hl 3 rfl) ?_
  refine lv_iconst (v := 1) hx hb dL_law_1094 (by decide) ?_
  refine lv_iadd hx hb dL_law_1095 ?_
  refine lv_topi (fun v1 ev1 => ?_)
  replace ev1 : v1 = 2 := ev1.trans (by decide)
  subst ev1
  refine va_sld hx hb hX hbl hbA hS (i_in (by decide) (by decide)) dL_law_1096 ?_
  refine lv_aload_n hx hb dL_law_1097 rfl (lv_at hl 0 rfl) ?_
  refine lv_iload_n hx hb dL_law_1098 rfl (lv_at hl 3 rfl) ?_
  refine lv_iconst (v := 2) hx hb dL_law_1099 (by decide) ?_
  refine lv_iadd hx hb dL_law_1100 ?_
  refine lv_topi (fun v2 ev2 => ?_)
  replace ev2 : v2 = 3 := ev2.trans (by decide)
  subst ev2
  refine va_sld hx hb hX hbl hbA hS (i_in (by decide) (by decide)) dL_law_1101 ?_
  refine lv_aload_n hx hb dL_law_1102 rfl (lv_at hl 0 rfl) ?_
  refine lv_iload_n hx hb dL_law_1103 rfl (lv_at hl 3 rfl) ?_
  refine lv_iconst (v := 3) hx hb dL_law_1104 (by decide) ?_
  refine lv_iadd hx hb dL_law_1105 ?_
  refine lv_topi (fun v3 ev3 => ?_)
  replace ev3 : v3 = 4 := ev3.trans (by decide)
  subst ev3
  refine va_sld hx hb hX hbl hbA hS (i_in (by decide) (by decide)) dL_law_1106 ?_
  refine st_i (wr := [((md 64), .inr (11, [.int 0, .long (sd.toInt64), .int 0, .ref (md 3), .ref (md 4), .ref (md 5), .int 0, .ref (md 7), .ref (md 8), .ref (md 9), .ref (md 10), .ref (md 11), .ref (md 12), .ref (md 13), .ref (md 14), .int 0, .ref (md 16), .ref (md 17), .int 0, .ref (md 19), .ref (md 20), .ref (md 21), .ref (md 22), .ref (md 23), .int 0, .int 0, .ref (md 26), .ref (md 27), .ref (md 28), .ref (md 29), .int 0, .ref (md 31), .int 0, .ref (md 33), .ref (md 34), .int 0, .int 0, .int 0, .int 0, .int 0, .int 0, .int 0, .int 0, .int 0, .int 0, .ref (md 45), .ref (md 46), .ref (md 47), .ref (md 48), .ref (md 49), .ref (md 50), .ref (md 51), .int 0, .ref (md 53), .ref (md 54), .ref (md 55), .ref (md 56), .int 0, .ref (md 58), .ref (md 59), .ref (md 60), .int 0, .ref (md 62), .int 0])), ((md 49), .inl (cI, 6, .inl (fun _ => 4))), ((md 50), .inl (cI, 6, .inl (fun _ => 100000)))]) (va_runV (C := RX10) (As := [.int (xs ((2 : Int32).toNatClampNeg)), .int (xs ((3 : Int32).toNatClampNeg)), .int (xs ((4 : Int32).toNatClampNeg))]) (rest := []) ⟨hx, hb, hml, hown, hts⟩ (ct_X10_room l D cI cY cJ cQ _ ad (xs ((2 : Int32).toNatClampNeg)) (xs ((3 : Int32).toNatClampNeg)) (xs ((4 : Int32).toNatClampNeg))) (cwV 3 hts gL_law_X10_room rfl rfl rfl (by decide +kernel) ⟨Nat.le_of_ble_eq_true rfl, Nat.le_of_ble_eq_true rfl⟩) (cPreV (hP.sub [0, 1, 2, 3] rfl) hK (hD.sub [0, 1, 2, 3] (by decide) rfl) hN (ci := 10) (q0 := 0) rfl rfl) rfl rfl hl.1 rfl (lv_room (Nat.le_of_ble_eq_true rfl)) dL_law_1107 ⟨Nat.le_of_ble_eq_true rfl, Nat.le_of_ble_eq_true rfl⟩) hP hD hS hA [0, 1, 2, 3] [4, 5, 6] rfl rfl (by decide) (by decide) (fun r6 u4 H locs hw5 hP hD hS => ?_)
  replace hP : va_P D vwCl [((md 64), .inr (11, [.int 0, .long (sd.toInt64), .int 0, .ref (md 3), .ref (md 4), .ref (md 5), .int 0, .ref (md 7), .ref (md 8), .ref (md 9), .ref (md 10), .ref (md 11), .ref (md 12), .ref (md 13), .ref (md 14), .int 0, .ref (md 16), .ref (md 17), .int 0, .ref (md 19), .ref (md 20), .ref (md 21), .ref (md 22), .ref (md 23), .int 0, .int 0, .ref (md 26), .ref (md 27), .ref (md 28), .ref (md 29), .int 0, .ref (md 31), .int 0, .ref (md 33), .ref (md 34), .int 0, .int 0, .int 0, .int 0, .int 0, .int 0, .int 0, .int 0, .int 0, .int 0, .ref (md 45), .ref (md 46), .ref (md 47), .ref (md 48), .ref (md 49), .ref (md 50), .ref (md 51), .int 0, .ref (md 53), .ref (md 54), .ref (md 55), .ref (md 56), .int 0, .ref (md 58), .ref (md 59), .ref (md 60), .int 0, .ref (md 62), .int 0])), ((md 49), .inl (cI, 6, .inl (fun _ => 4))), ((md 50), .inl (cI, 6, .inl (fun _ => 100000)))] H := hP
  replace hD : va_D (fun q : Nat => s.heap.size ≤ q) [((md 64), .inr (11, [.int 0, .long (sd.toInt64), .int 0, .ref (md 3), .ref (md 4), .ref (md 5), .int 0, .ref (md 7), .ref (md 8), .ref (md 9), .ref (md 10), .ref (md 11), .ref (md 12), .ref (md 13), .ref (md 14), .int 0, .ref (md 16), .ref (md 17), .int 0, .ref (md 19), .ref (md 20), .ref (md 21), .ref (md 22), .ref (md 23), .int 0, .int 0, .ref (md 26), .ref (md 27), .ref (md 28), .ref (md 29), .int 0, .ref (md 31), .int 0, .ref (md 33), .ref (md 34), .int 0, .int 0, .int 0, .int 0, .int 0, .int 0, .int 0, .int 0, .int 0, .int 0, .ref (md 45), .ref (md 46), .ref (md 47), .ref (md 48), .ref (md 49), .ref (md 50), .ref (md 51), .int 0, .ref (md 53), .ref (md 54), .ref (md 55), .ref (md 56), .int 0, .ref (md 58), .ref (md 59), .ref (md 60), .int 0, .ref (md 62), .int 0])), ((md 49), .inl (cI, 6, .inl (fun _ => 4))), ((md 50), .inl (cI, 6, .inl (fun _ => 100000)))] := hD
  refine lv_aload_n hx hb dL_law_1110 rfl (lv_at hl 2 rfl) ?_
  refine lv_aload_n hx hb dL_law_1111 rfl (lv_at hl 0 rfl) ?_
  refine lv_iload_n hx hb dL_law_1112 rfl (lv_at hl 3 rfl) ?_
  refine lv_iconst (v := 1) hx hb dL_law_1113 (by decide) ?_
  refine lv_iadd hx hb dL_law_1114 ?_
  refine lv_topi (fun v7 ev7 => ?_)
  replace ev7 : v7 = 2 := ev7.trans (by decide)
  subst ev7
  refine va_sld hx hb hX hbl hbA hS (i_in (by decide) (by decide)) dL_law_1115 ?_
  refine lv_aload_n hx hb dL_law_1116 rfl (lv_at hl 0 rfl) ?_
  refine lv_iload_n hx hb dL_law_1117 rfl (lv_at hl 3 rfl) ?_
  refine lv_iconst (v := 2) hx hb dL_law_1118 (by decide) ?_
  refine lv_iadd hx hb dL_law_1119 ?_
  refine lv_topi (fun v8 ev8 => ?_)
  replace ev8 : v8 = 3 := ev8.trans (by decide)
  subst ev8
  refine va_sld hx hb hX hbl hbA hS (i_in (by decide) (by decide)) dL_law_1120 ?_
  refine lv_aload_n hx hb dL_law_1121 rfl (lv_at hl 0 rfl) ?_
  refine lv_iload_n hx hb dL_law_1122 rfl (lv_at hl 3 rfl) ?_
  refine lv_iconst (v := 3) hx hb dL_law_1123 (by decide) ?_
  refine lv_iadd hx hb dL_law_1124 ?_
  refine lv_topi (fun v9 ev9 => ?_)
  replace ev9 : v9 = 4 := ev9.trans (by decide)
  subst ev9
  refine va_sld hx hb hX hbl hbA hS (i_in (by decide) (by decide)) dL_law_1125 ?_
  refine st_i (wr := []) (va_runV (C := RX11) (As := [.int (xs ((2 : Int32).toNatClampNeg)), .int (xs ((3 : Int32).toNatClampNeg)), .int (xs ((4 : Int32).toNatClampNeg))]) (rest := [.int r6]) ⟨hx, hb, hml, hown, hts⟩ (ct_X11_room l D cI cY cJ cQ _ md sd (xs ((2 : Int32).toNatClampNeg)) (xs ((3 : Int32).toNatClampNeg)) (xs ((4 : Int32).toNatClampNeg))) (cwV 3 hts gL_law_X11_room rfl rfl rfl (by decide +kernel) ⟨Nat.le_of_ble_eq_true rfl, Nat.le_of_ble_eq_true rfl⟩) (cPreV (hP.sub [0, 1, 2] rfl) hK (hD.sub [0, 1, 2] (by decide) rfl) hN (ci := 11) (q0 := 0) rfl rfl) rfl rfl hl.1 rfl (lv_room (Nat.le_of_ble_eq_true rfl)) dL_law_1126 ⟨Nat.le_of_ble_eq_true rfl, Nat.le_of_ble_eq_true rfl⟩) hP hD hS hA [0, 1, 2] [] rfl rfl (by decide) (by decide) (fun r12 u10 H locs hw11 hP hD hS => ?_)
  replace hP : va_P D vwCl [] H := hP
  replace hD : va_D (fun q : Nat => s.heap.size ≤ q) [] := hD
  refine lv_icmp_eq (tgt := 1652) hx hb dL_law_1129 (by decide) (fun _ => ?_) (fun c13 => by exfalso; exact c13 (hw5.trans hw11.symm))
  exact law_tail C0k hS (lv_sub hl [0, 3] rfl)

set_option maxHeartbeats 4000000 in
set_option maxRecDepth 100000 in
theorem law_case_22 {p : Program} {l : Launch} {e : Env} {s : State} {m : MethodId} {below : List Frame} {meth : Method} {c : Code} {D : va_G} {cI cY cJ cQ : ClassId} {b : Nat} {xs : Nat → Int32} {ad rw md : Nat → Nat} {sd : Int32} {H : Heap} {locs : List Loc} {ls : Array Slot} (C0 : lawC p s m meth c b xs D cI cY cJ cQ) (hP : va_P D vwCl [((ad 0), .inr (10, [.ref (ad 1), .ref (ad 2), .ref (ad 3), .ref (ad 4), .ref (ad 5), .ref (ad 6), .ref (ad 7), .ref (ad 8), .ref (ad 9), .ref (ad 10), .ref (ad 11), .int 0, .int 0, .int 0])), ((ad 3), .inr (1, [.ref (ad 31), .ref (ad 32), .ref (ad 33), .int 0, .ref (ad 34), .ref (ad 35)])), ((md 64), .inr (11, [.int 0, .long (sd.toInt64), .int 0, .ref (md 3), .ref (md 4), .ref (md 5), .int 0, .ref (md 7), .ref (md 8), .ref (md 9), .ref (md 10), .ref (md 11), .ref (md 12), .ref (md 13), .ref (md 14), .int 0, .ref (md 16), .ref (md 17), .int 0, .ref (md 19), .ref (md 20), .ref (md 21), .ref (md 22), .ref (md 23), .int 0, .int 0, .ref (md 26), .ref (md 27), .ref (md 28), .ref (md 29), .int 0, .ref (md 31), .int 0, .ref (md 33), .ref (md 34), .int 0, .int 0, .int 0, .int 0, .int 0, .int 0, .int 0, .int 0, .int 0, .int 0, .ref (md 45), .ref (md 46), .ref (md 47), .ref (md 48), .ref (md 49), .ref (md 50), .ref (md 51), .int 0, .ref (md 53), .ref (md 54), .ref (md 55), .ref (md 56), .int 0, .ref (md 58), .ref (md 59), .ref (md 60), .int 0, .ref (md 62), .int 0]))] H) (hD : va_D (fun q : Nat => s.heap.size ≤ q) [((ad 0), .inr (10, [.ref (ad 1), .ref (ad 2), .ref (ad 3), .ref (ad 4), .ref (ad 5), .ref (ad 6), .ref (ad 7), .ref (ad 8), .ref (ad 9), .ref (ad 10), .ref (ad 11), .int 0, .int 0, .int 0])), ((ad 3), .inr (1, [.ref (ad 31), .ref (ad 32), .ref (ad 33), .int 0, .ref (ad 34), .ref (ad 35)])), ((md 64), .inr (11, [.int 0, .long (sd.toInt64), .int 0, .ref (md 3), .ref (md 4), .ref (md 5), .int 0, .ref (md 7), .ref (md 8), .ref (md 9), .ref (md 10), .ref (md 11), .ref (md 12), .ref (md 13), .ref (md 14), .int 0, .ref (md 16), .ref (md 17), .int 0, .ref (md 19), .ref (md 20), .ref (md 21), .ref (md 22), .ref (md 23), .int 0, .int 0, .ref (md 26), .ref (md 27), .ref (md 28), .ref (md 29), .int 0, .ref (md 31), .int 0, .ref (md 33), .ref (md 34), .int 0, .int 0, .int 0, .int 0, .int 0, .int 0, .int 0, .int 0, .int 0, .int 0, .ref (md 45), .ref (md 46), .ref (md 47), .ref (md 48), .ref (md 49), .ref (md 50), .ref (md 51), .int 0, .ref (md 53), .ref (md 54), .ref (md 55), .ref (md 56), .int 0, .ref (md 58), .ref (md 59), .ref (md 60), .int 0, .ref (md 62), .int 0]))]) (hS : va_S (fun q : Nat => s.heap.size ≤ q) s.heap H locs) (hl : lv_has ls 4 [(0, .ref b), (1, .ref (ad 0)), (2, .ref (md 64)), (3, .int 1)]) : W p l e room_1 s m #[Value.ref b] below meth c H locs 107 4890 (lw_Z below #[Value.ref b] s) (F0 m 1134 ls []) := by
  have C0k := C0
  obtain ⟨C1, hK, hN⟩ := C0
  obtain ⟨hx, hb, hr, hml, hown, hts0, hX, hbl, hlocks, hgv⟩ := C1
  have hA : ∀ q : Nat, s.heap.size ≤ q → (fun q : Nat => s.heap.size ≤ q) q := fun _ h => h
  have hbA : ¬ (fun q : Nat => s.heap.size ≤ q) b := Nat.not_le.mpr hbl
  have hts : ∀ w ∈ wsL_law, w.before #[Value.ref b] s = true := fun w h => hts0 w (wsL_law_in w h)
  replace hown : s.vm.findClass RL = some m.cls := hown
  replace hb : c.code = cL_law := hb
  have hLI : (Int32.ofNat 7).toInt = 7 := by decide
  refine lv_aload_n hx hb dL_law_1134 rfl (lv_at hl 1 rfl) ?_
  refine lv_aload_n hx hb dL_law_1135 rfl (lv_at hl 0 rfl) ?_
  refine lv_iload_n hx hb dL_law_1136 rfl (lv_at hl 3 rfl) ?_
  refine lv_iconst (v := 1) hx hb dL_law_1137 (by decide) ?_
  refine lv_iadd hx hb dL_law_1138 ?_
  refine lv_topi (fun v1 ev1 => ?_)
  replace ev1 : v1 = 2 := ev1.trans (by decide)
  subst ev1
  refine va_sld hx hb hX hbl hbA hS (i_in (by decide) (by decide)) dL_law_1139 ?_
  refine lv_aload_n hx hb dL_law_1140 rfl (lv_at hl 0 rfl) ?_
  refine lv_iload_n hx hb dL_law_1141 rfl (lv_at hl 3 rfl) ?_
  refine lv_iconst (v := 2) hx hb dL_law_1142 (by decide) ?_
  refine lv_iadd hx hb dL_law_1143 ?_
  refine lv_topi (fun v2 ev2 => ?_)
  replace ev2 : v2 = 3 := ev2.trans (by decide)
  subst ev2
  refine va_sld hx hb hX hbl hbA hS (i_in (by decide) (by decide)) dL_law_1144 ?_
  refine st_i (wr := [((md 64), .inr (11, [.int 0, .long (sd.toInt64), .int 0, .ref (md 3), .ref (md 4), .ref (md 5), .int 0, .ref (md 7), .ref (md 8), .ref (md 9), .ref (md 10), .ref (md 11), .ref (md 12), .ref (md 13), .ref (md 14), .int 0, .ref (md 16), .ref (md 17), .int 0, .ref (md 19), .ref (md 20), .ref (md 21), .ref (md 22), .ref (md 23), .int 0, .int 0, .ref (md 26), .ref (md 27), .ref (md 28), .ref (md 29), .int 0, .ref (md 31), .int 0, .ref (md 33), .ref (md 34), .int 0, .int 0, .int 0, .int 0, .int 0, .int 0, .int 0, .int 0, .int 0, .int 0, .ref (md 45), .ref (md 46), .ref (md 47), .ref (md 48), .ref (md 49), .ref (md 50), .ref (md 51), .int 0, .ref (md 53), .ref (md 54), .ref (md 55), .ref (md 56), .int 0, .ref (md 58), .ref (md 59), .ref (md 60), .int 0, .ref (md 62), .int 0]))]) (va_runV (C := RX10) (As := [.int (xs ((2 : Int32).toNatClampNeg)), .int (xs ((3 : Int32).toNatClampNeg))]) (rest := []) ⟨hx, hb, hml, hown, hts⟩ (ct_X10_move l D cI cY cJ cQ _ ad (xs ((2 : Int32).toNatClampNeg)) (xs ((3 : Int32).toNatClampNeg))) (cwV 2 hts gL_law_X10_move rfl rfl rfl (by decide +kernel) ⟨Nat.le_of_ble_eq_true rfl, Nat.le_of_ble_eq_true rfl⟩) (cPreV (hP.sub [0, 1] rfl) hK (hD.sub [0, 1] (by decide) rfl) hN (ci := 10) (q0 := 0) rfl rfl) rfl rfl hl.1 rfl (lv_room (Nat.le_of_ble_eq_true rfl)) dL_law_1145 ⟨Nat.le_of_ble_eq_true rfl, Nat.le_of_ble_eq_true rfl⟩) hP hD hS hA [0, 1] [2] rfl rfl (by decide) (by decide) (fun r5 u3 H locs hw4 hP hD hS => ?_)
  replace hP : va_P D vwCl [((md 64), .inr (11, [.int 0, .long (sd.toInt64), .int 0, .ref (md 3), .ref (md 4), .ref (md 5), .int 0, .ref (md 7), .ref (md 8), .ref (md 9), .ref (md 10), .ref (md 11), .ref (md 12), .ref (md 13), .ref (md 14), .int 0, .ref (md 16), .ref (md 17), .int 0, .ref (md 19), .ref (md 20), .ref (md 21), .ref (md 22), .ref (md 23), .int 0, .int 0, .ref (md 26), .ref (md 27), .ref (md 28), .ref (md 29), .int 0, .ref (md 31), .int 0, .ref (md 33), .ref (md 34), .int 0, .int 0, .int 0, .int 0, .int 0, .int 0, .int 0, .int 0, .int 0, .int 0, .ref (md 45), .ref (md 46), .ref (md 47), .ref (md 48), .ref (md 49), .ref (md 50), .ref (md 51), .int 0, .ref (md 53), .ref (md 54), .ref (md 55), .ref (md 56), .int 0, .ref (md 58), .ref (md 59), .ref (md 60), .int 0, .ref (md 62), .int 0]))] H := hP
  replace hD : va_D (fun q : Nat => s.heap.size ≤ q) [((md 64), .inr (11, [.int 0, .long (sd.toInt64), .int 0, .ref (md 3), .ref (md 4), .ref (md 5), .int 0, .ref (md 7), .ref (md 8), .ref (md 9), .ref (md 10), .ref (md 11), .ref (md 12), .ref (md 13), .ref (md 14), .int 0, .ref (md 16), .ref (md 17), .int 0, .ref (md 19), .ref (md 20), .ref (md 21), .ref (md 22), .ref (md 23), .int 0, .int 0, .ref (md 26), .ref (md 27), .ref (md 28), .ref (md 29), .int 0, .ref (md 31), .int 0, .ref (md 33), .ref (md 34), .int 0, .int 0, .int 0, .int 0, .int 0, .int 0, .int 0, .int 0, .int 0, .int 0, .ref (md 45), .ref (md 46), .ref (md 47), .ref (md 48), .ref (md 49), .ref (md 50), .ref (md 51), .int 0, .ref (md 53), .ref (md 54), .ref (md 55), .ref (md 56), .int 0, .ref (md 58), .ref (md 59), .ref (md 60), .int 0, .ref (md 62), .int 0]))] := hD
  refine lv_aload_n hx hb dL_law_1148 rfl (lv_at hl 2 rfl) ?_
  refine lv_aload_n hx hb dL_law_1149 rfl (lv_at hl 0 rfl) ?_
  refine lv_iload_n hx hb dL_law_1150 rfl (lv_at hl 3 rfl) ?_
  refine lv_iconst (v := 1) hx hb dL_law_1151 (by decide) ?_
  refine lv_iadd hx hb dL_law_1152 ?_
  refine lv_topi (fun v6 ev6 => ?_)
  replace ev6 : v6 = 2 := ev6.trans (by decide)
  subst ev6
  refine va_sld hx hb hX hbl hbA hS (i_in (by decide) (by decide)) dL_law_1153 ?_
  refine lv_aload_n hx hb dL_law_1154 rfl (lv_at hl 0 rfl) ?_
  refine lv_iload_n hx hb dL_law_1155 rfl (lv_at hl 3 rfl) ?_
  refine lv_iconst (v := 2) hx hb dL_law_1156 (by decide) ?_
  refine lv_iadd hx hb dL_law_1157 ?_
  refine lv_topi (fun v7 ev7 => ?_)
  replace ev7 : v7 = 3 := ev7.trans (by decide)
  subst ev7
  refine va_sld hx hb hX hbl hbA hS (i_in (by decide) (by decide)) dL_law_1158 ?_
  refine st_i (wr := []) (va_runV (C := RX11) (As := [.int (xs ((2 : Int32).toNatClampNeg)), .int (xs ((3 : Int32).toNatClampNeg))]) (rest := [.int r5]) ⟨hx, hb, hml, hown, hts⟩ (ct_X11_move l D cI cY cJ cQ _ md sd (xs ((2 : Int32).toNatClampNeg)) (xs ((3 : Int32).toNatClampNeg))) (cwV 2 hts gL_law_X11_move rfl rfl rfl (by decide +kernel) ⟨Nat.le_of_ble_eq_true rfl, Nat.le_of_ble_eq_true rfl⟩) (cPreV (hP.sub [0] rfl) hK (hD.sub [0] (by decide) rfl) hN (ci := 11) (q0 := 0) rfl rfl) rfl rfl hl.1 rfl (lv_room (Nat.le_of_ble_eq_true rfl)) dL_law_1159 ⟨Nat.le_of_ble_eq_true rfl, Nat.le_of_ble_eq_true rfl⟩) hP hD hS hA [0] [] rfl rfl (by decide) (by decide) (fun r10 u8 H locs hw9 hP hD hS => ?_)
  replace hP : va_P D vwCl [] H := hP
  replace hD : va_D (fun q : Nat => s.heap.size ≤ q) [] := hD
  refine lv_icmp_eq (tgt := 1652) hx hb dL_law_1162 (by decide) (fun _ => ?_) (fun c11 => by exfalso; exact c11 (hw4.trans hw9.symm))
  exact law_tail C0k hS (lv_sub hl [0, 3] rfl)

set_option maxHeartbeats 4000000 in
set_option maxRecDepth 100000 in
theorem law_case_23 {p : Program} {l : Launch} {e : Env} {s : State} {m : MethodId} {below : List Frame} {meth : Method} {c : Code} {D : va_G} {cI cY cJ cQ : ClassId} {b : Nat} {xs : Nat → Int32} {ad rw md : Nat → Nat} {sd : Int32} {H : Heap} {locs : List Loc} {ls : Array Slot} (C0 : lawC p s m meth c b xs D cI cY cJ cQ) (hP : va_P D vwCl [((ad 0), .inr (10, [.ref (ad 1), .ref (ad 2), .ref (ad 3), .ref (ad 4), .ref (ad 5), .ref (ad 6), .ref (ad 7), .ref (ad 8), .ref (ad 9), .ref (ad 10), .ref (ad 11), .int 0, .int 0, .int 0])), ((ad 3), .inr (1, [.ref (ad 31), .ref (ad 32), .ref (ad 33), .int 0, .ref (ad 34), .ref (ad 35)])), ((md 64), .inr (11, [.int 0, .long (sd.toInt64), .int 0, .ref (md 3), .ref (md 4), .ref (md 5), .int 0, .ref (md 7), .ref (md 8), .ref (md 9), .ref (md 10), .ref (md 11), .ref (md 12), .ref (md 13), .ref (md 14), .int 0, .ref (md 16), .ref (md 17), .int 0, .ref (md 19), .ref (md 20), .ref (md 21), .ref (md 22), .ref (md 23), .int 0, .int 0, .ref (md 26), .ref (md 27), .ref (md 28), .ref (md 29), .int 0, .ref (md 31), .int 0, .ref (md 33), .ref (md 34), .int 0, .int 0, .int 0, .int 0, .int 0, .int 0, .int 0, .int 0, .int 0, .int 0, .ref (md 45), .ref (md 46), .ref (md 47), .ref (md 48), .ref (md 49), .ref (md 50), .ref (md 51), .int 0, .ref (md 53), .ref (md 54), .ref (md 55), .ref (md 56), .int 0, .ref (md 58), .ref (md 59), .ref (md 60), .int 0, .ref (md 62), .int 0]))] H) (hD : va_D (fun q : Nat => s.heap.size ≤ q) [((ad 0), .inr (10, [.ref (ad 1), .ref (ad 2), .ref (ad 3), .ref (ad 4), .ref (ad 5), .ref (ad 6), .ref (ad 7), .ref (ad 8), .ref (ad 9), .ref (ad 10), .ref (ad 11), .int 0, .int 0, .int 0])), ((ad 3), .inr (1, [.ref (ad 31), .ref (ad 32), .ref (ad 33), .int 0, .ref (ad 34), .ref (ad 35)])), ((md 64), .inr (11, [.int 0, .long (sd.toInt64), .int 0, .ref (md 3), .ref (md 4), .ref (md 5), .int 0, .ref (md 7), .ref (md 8), .ref (md 9), .ref (md 10), .ref (md 11), .ref (md 12), .ref (md 13), .ref (md 14), .int 0, .ref (md 16), .ref (md 17), .int 0, .ref (md 19), .ref (md 20), .ref (md 21), .ref (md 22), .ref (md 23), .int 0, .int 0, .ref (md 26), .ref (md 27), .ref (md 28), .ref (md 29), .int 0, .ref (md 31), .int 0, .ref (md 33), .ref (md 34), .int 0, .int 0, .int 0, .int 0, .int 0, .int 0, .int 0, .int 0, .int 0, .int 0, .ref (md 45), .ref (md 46), .ref (md 47), .ref (md 48), .ref (md 49), .ref (md 50), .ref (md 51), .int 0, .ref (md 53), .ref (md 54), .ref (md 55), .ref (md 56), .int 0, .ref (md 58), .ref (md 59), .ref (md 60), .int 0, .ref (md 62), .int 0]))]) (hS : va_S (fun q : Nat => s.heap.size ≤ q) s.heap H locs) (hl : lv_has ls 4 [(0, .ref b), (1, .ref (ad 0)), (2, .ref (md 64)), (3, .int 1)]) : W p l e room_1 s m #[Value.ref b] below meth c H locs 107 4890 (lw_Z below #[Value.ref b] s) (F0 m 1167 ls []) := by
  have C0k := C0
  obtain ⟨C1, hK, hN⟩ := C0
  obtain ⟨hx, hb, hr, hml, hown, hts0, hX, hbl, hlocks, hgv⟩ := C1
  have hA : ∀ q : Nat, s.heap.size ≤ q → (fun q : Nat => s.heap.size ≤ q) q := fun _ h => h
  have hbA : ¬ (fun q : Nat => s.heap.size ≤ q) b := Nat.not_le.mpr hbl
  have hts : ∀ w ∈ wsL_law, w.before #[Value.ref b] s = true := fun w h => hts0 w (wsL_law_in w h)
  replace hown : s.vm.findClass RL = some m.cls := hown
  replace hb : c.code = cL_law := hb
  have hLI : (Int32.ofNat 7).toInt = 7 := by decide
  refine lv_aload_n hx hb dL_law_1167 rfl (lv_at hl 1 rfl) ?_
  refine lv_aload_n hx hb dL_law_1168 rfl (lv_at hl 0 rfl) ?_
  refine lv_iload_n hx hb dL_law_1169 rfl (lv_at hl 3 rfl) ?_
  refine lv_iconst (v := 1) hx hb dL_law_1170 (by decide) ?_
  refine lv_iadd hx hb dL_law_1171 ?_
  refine lv_topi (fun v1 ev1 => ?_)
  replace ev1 : v1 = 2 := ev1.trans (by decide)
  subst ev1
  refine va_sld hx hb hX hbl hbA hS (i_in (by decide) (by decide)) dL_law_1172 ?_
  refine lv_aload_n hx hb dL_law_1173 rfl (lv_at hl 0 rfl) ?_
  refine lv_iload_n hx hb dL_law_1174 rfl (lv_at hl 3 rfl) ?_
  refine lv_iconst (v := 2) hx hb dL_law_1175 (by decide) ?_
  refine lv_iadd hx hb dL_law_1176 ?_
  refine lv_topi (fun v2 ev2 => ?_)
  replace ev2 : v2 = 3 := ev2.trans (by decide)
  subst ev2
  refine va_sld hx hb hX hbl hbA hS (i_in (by decide) (by decide)) dL_law_1177 ?_
  refine st_i (wr := [((md 64), .inr (11, [.int 0, .long (sd.toInt64), .int 0, .ref (md 3), .ref (md 4), .ref (md 5), .int 0, .ref (md 7), .ref (md 8), .ref (md 9), .ref (md 10), .ref (md 11), .ref (md 12), .ref (md 13), .ref (md 14), .int 0, .ref (md 16), .ref (md 17), .int 0, .ref (md 19), .ref (md 20), .ref (md 21), .ref (md 22), .ref (md 23), .int 0, .int 0, .ref (md 26), .ref (md 27), .ref (md 28), .ref (md 29), .int 0, .ref (md 31), .int 0, .ref (md 33), .ref (md 34), .int 0, .int 0, .int 0, .int 0, .int 0, .int 0, .int 0, .int 0, .int 0, .int 0, .ref (md 45), .ref (md 46), .ref (md 47), .ref (md 48), .ref (md 49), .ref (md 50), .ref (md 51), .int 0, .ref (md 53), .ref (md 54), .ref (md 55), .ref (md 56), .int 0, .ref (md 58), .ref (md 59), .ref (md 60), .int 0, .ref (md 62), .int 0]))]) (va_runV (C := RX10) (As := [.int (xs ((2 : Int32).toNatClampNeg)), .int (xs ((3 : Int32).toNatClampNeg))]) (rest := []) ⟨hx, hb, hml, hown, hts⟩ (ct_X10_inside l D cI cY cJ cQ _ ad (xs ((2 : Int32).toNatClampNeg)) (xs ((3 : Int32).toNatClampNeg))) (cwV 2 hts gL_law_X10_inside rfl rfl rfl (by decide +kernel) ⟨Nat.le_of_ble_eq_true rfl, Nat.le_of_ble_eq_true rfl⟩) (cPreV (hP.sub [0, 1] rfl) hK (hD.sub [0, 1] (by decide) rfl) hN (ci := 10) (q0 := 0) rfl rfl) rfl rfl hl.1 rfl (lv_room (Nat.le_of_ble_eq_true rfl)) dL_law_1178 ⟨Nat.le_of_ble_eq_true rfl, Nat.le_of_ble_eq_true rfl⟩) hP hD hS hA [0, 1] [2] rfl rfl (by decide) (by decide) (fun r5 u3 H locs hw4 hP hD hS => ?_)
  replace hP : va_P D vwCl [((md 64), .inr (11, [.int 0, .long (sd.toInt64), .int 0, .ref (md 3), .ref (md 4), .ref (md 5), .int 0, .ref (md 7), .ref (md 8), .ref (md 9), .ref (md 10), .ref (md 11), .ref (md 12), .ref (md 13), .ref (md 14), .int 0, .ref (md 16), .ref (md 17), .int 0, .ref (md 19), .ref (md 20), .ref (md 21), .ref (md 22), .ref (md 23), .int 0, .int 0, .ref (md 26), .ref (md 27), .ref (md 28), .ref (md 29), .int 0, .ref (md 31), .int 0, .ref (md 33), .ref (md 34), .int 0, .int 0, .int 0, .int 0, .int 0, .int 0, .int 0, .int 0, .int 0, .int 0, .ref (md 45), .ref (md 46), .ref (md 47), .ref (md 48), .ref (md 49), .ref (md 50), .ref (md 51), .int 0, .ref (md 53), .ref (md 54), .ref (md 55), .ref (md 56), .int 0, .ref (md 58), .ref (md 59), .ref (md 60), .int 0, .ref (md 62), .int 0]))] H := hP
  replace hD : va_D (fun q : Nat => s.heap.size ≤ q) [((md 64), .inr (11, [.int 0, .long (sd.toInt64), .int 0, .ref (md 3), .ref (md 4), .ref (md 5), .int 0, .ref (md 7), .ref (md 8), .ref (md 9), .ref (md 10), .ref (md 11), .ref (md 12), .ref (md 13), .ref (md 14), .int 0, .ref (md 16), .ref (md 17), .int 0, .ref (md 19), .ref (md 20), .ref (md 21), .ref (md 22), .ref (md 23), .int 0, .int 0, .ref (md 26), .ref (md 27), .ref (md 28), .ref (md 29), .int 0, .ref (md 31), .int 0, .ref (md 33), .ref (md 34), .int 0, .int 0, .int 0, .int 0, .int 0, .int 0, .int 0, .int 0, .int 0, .int 0, .ref (md 45), .ref (md 46), .ref (md 47), .ref (md 48), .ref (md 49), .ref (md 50), .ref (md 51), .int 0, .ref (md 53), .ref (md 54), .ref (md 55), .ref (md 56), .int 0, .ref (md 58), .ref (md 59), .ref (md 60), .int 0, .ref (md 62), .int 0]))] := hD
  refine lv_aload_n hx hb dL_law_1181 rfl (lv_at hl 2 rfl) ?_
  refine lv_aload_n hx hb dL_law_1182 rfl (lv_at hl 0 rfl) ?_
  refine lv_iload_n hx hb dL_law_1183 rfl (lv_at hl 3 rfl) ?_
  refine lv_iconst (v := 1) hx hb dL_law_1184 (by decide) ?_
  refine lv_iadd hx hb dL_law_1185 ?_
  refine lv_topi (fun v6 ev6 => ?_)
  replace ev6 : v6 = 2 := ev6.trans (by decide)
  subst ev6
  refine va_sld hx hb hX hbl hbA hS (i_in (by decide) (by decide)) dL_law_1186 ?_
  refine lv_aload_n hx hb dL_law_1187 rfl (lv_at hl 0 rfl) ?_
  refine lv_iload_n hx hb dL_law_1188 rfl (lv_at hl 3 rfl) ?_
  refine lv_iconst (v := 2) hx hb dL_law_1189 (by decide) ?_
  refine lv_iadd hx hb dL_law_1190 ?_
  refine lv_topi (fun v7 ev7 => ?_)
  replace ev7 : v7 = 3 := ev7.trans (by decide)
  subst ev7
  refine va_sld hx hb hX hbl hbA hS (i_in (by decide) (by decide)) dL_law_1191 ?_
  refine st_i (wr := []) (va_runV (C := RX11) (As := [.int (xs ((2 : Int32).toNatClampNeg)), .int (xs ((3 : Int32).toNatClampNeg))]) (rest := [.int r5]) ⟨hx, hb, hml, hown, hts⟩ (ct_X11_inside l D cI cY cJ cQ _ md sd (xs ((2 : Int32).toNatClampNeg)) (xs ((3 : Int32).toNatClampNeg))) (cwV 2 hts gL_law_X11_inside rfl rfl rfl (by decide +kernel) ⟨Nat.le_of_ble_eq_true rfl, Nat.le_of_ble_eq_true rfl⟩) (cPreV (hP.sub [0] rfl) hK (hD.sub [0] (by decide) rfl) hN (ci := 11) (q0 := 0) rfl rfl) rfl rfl hl.1 rfl (lv_room (Nat.le_of_ble_eq_true rfl)) dL_law_1192 ⟨Nat.le_of_ble_eq_true rfl, Nat.le_of_ble_eq_true rfl⟩) hP hD hS hA [0] [] rfl rfl (by decide) (by decide) (fun r10 u8 H locs hw9 hP hD hS => ?_)
  replace hP : va_P D vwCl [] H := hP
  replace hD : va_D (fun q : Nat => s.heap.size ≤ q) [] := hD
  refine lv_icmp_eq (tgt := 1652) hx hb dL_law_1195 (by decide) (fun _ => ?_) (fun c11 => by exfalso; exact c11 (hw4.trans hw9.symm))
  exact law_tail C0k hS (lv_sub hl [0, 3] rfl)

set_option maxHeartbeats 4000000 in
set_option maxRecDepth 100000 in
theorem law_case_24 {p : Program} {l : Launch} {e : Env} {s : State} {m : MethodId} {below : List Frame} {meth : Method} {c : Code} {D : va_G} {cI cY cJ cQ : ClassId} {b : Nat} {xs : Nat → Int32} {ad rw md : Nat → Nat} {sd : Int32} {H : Heap} {locs : List Loc} {ls : Array Slot} (C0 : lawC p s m meth c b xs D cI cY cJ cQ) (hP : va_P D vwCl [((ad 0), .inr (10, [.ref (ad 1), .ref (ad 2), .ref (ad 3), .ref (ad 4), .ref (ad 5), .ref (ad 6), .ref (ad 7), .ref (ad 8), .ref (ad 9), .ref (ad 10), .ref (ad 11), .int 0, .int 0, .int 0])), ((ad 8), .inr (5, [.int sd, .ref (ad 58)])), ((md 64), .inr (11, [.int 0, .long (sd.toInt64), .int 0, .ref (md 3), .ref (md 4), .ref (md 5), .int 0, .ref (md 7), .ref (md 8), .ref (md 9), .ref (md 10), .ref (md 11), .ref (md 12), .ref (md 13), .ref (md 14), .int 0, .ref (md 16), .ref (md 17), .int 0, .ref (md 19), .ref (md 20), .ref (md 21), .ref (md 22), .ref (md 23), .int 0, .int 0, .ref (md 26), .ref (md 27), .ref (md 28), .ref (md 29), .int 0, .ref (md 31), .int 0, .ref (md 33), .ref (md 34), .int 0, .int 0, .int 0, .int 0, .int 0, .int 0, .int 0, .int 0, .int 0, .int 0, .ref (md 45), .ref (md 46), .ref (md 47), .ref (md 48), .ref (md 49), .ref (md 50), .ref (md 51), .int 0, .ref (md 53), .ref (md 54), .ref (md 55), .ref (md 56), .int 0, .ref (md 58), .ref (md 59), .ref (md 60), .int 0, .ref (md 62), .int 0]))] H) (hD : va_D (fun q : Nat => s.heap.size ≤ q) [((ad 0), .inr (10, [.ref (ad 1), .ref (ad 2), .ref (ad 3), .ref (ad 4), .ref (ad 5), .ref (ad 6), .ref (ad 7), .ref (ad 8), .ref (ad 9), .ref (ad 10), .ref (ad 11), .int 0, .int 0, .int 0])), ((ad 8), .inr (5, [.int sd, .ref (ad 58)])), ((md 64), .inr (11, [.int 0, .long (sd.toInt64), .int 0, .ref (md 3), .ref (md 4), .ref (md 5), .int 0, .ref (md 7), .ref (md 8), .ref (md 9), .ref (md 10), .ref (md 11), .ref (md 12), .ref (md 13), .ref (md 14), .int 0, .ref (md 16), .ref (md 17), .int 0, .ref (md 19), .ref (md 20), .ref (md 21), .ref (md 22), .ref (md 23), .int 0, .int 0, .ref (md 26), .ref (md 27), .ref (md 28), .ref (md 29), .int 0, .ref (md 31), .int 0, .ref (md 33), .ref (md 34), .int 0, .int 0, .int 0, .int 0, .int 0, .int 0, .int 0, .int 0, .int 0, .int 0, .ref (md 45), .ref (md 46), .ref (md 47), .ref (md 48), .ref (md 49), .ref (md 50), .ref (md 51), .int 0, .ref (md 53), .ref (md 54), .ref (md 55), .ref (md 56), .int 0, .ref (md 58), .ref (md 59), .ref (md 60), .int 0, .ref (md 62), .int 0]))]) (hS : va_S (fun q : Nat => s.heap.size ≤ q) s.heap H locs) (hl : lv_has ls 4 [(0, .ref b), (1, .ref (ad 0)), (2, .ref (md 64)), (3, .int 1)]) : W p l e room_1 s m #[Value.ref b] below meth c H locs 107 4890 (lw_Z below #[Value.ref b] s) (F0 m 1200 ls []) := by
  have C0k := C0
  obtain ⟨C1, hK, hN⟩ := C0
  obtain ⟨hx, hb, hr, hml, hown, hts0, hX, hbl, hlocks, hgv⟩ := C1
  have hA : ∀ q : Nat, s.heap.size ≤ q → (fun q : Nat => s.heap.size ≤ q) q := fun _ h => h
  have hbA : ¬ (fun q : Nat => s.heap.size ≤ q) b := Nat.not_le.mpr hbl
  have hts : ∀ w ∈ wsL_law, w.before #[Value.ref b] s = true := fun w h => hts0 w (wsL_law_in w h)
  replace hown : s.vm.findClass RL = some m.cls := hown
  replace hb : c.code = cL_law := hb
  have hLI : (Int32.ofNat 7).toInt = 7 := by decide
  refine lv_aload_n hx hb dL_law_1200 rfl (lv_at hl 1 rfl) ?_
  refine lv_aload_n hx hb dL_law_1201 rfl (lv_at hl 0 rfl) ?_
  refine lv_iload_n hx hb dL_law_1202 rfl (lv_at hl 3 rfl) ?_
  refine lv_iconst (v := 1) hx hb dL_law_1203 (by decide) ?_
  refine lv_iadd hx hb dL_law_1204 ?_
  refine lv_topi (fun v1 ev1 => ?_)
  replace ev1 : v1 = 2 := ev1.trans (by decide)
  subst ev1
  refine va_sld hx hb hX hbl hbA hS (i_in (by decide) (by decide)) dL_law_1205 ?_
  refine lv_aload_n hx hb dL_law_1206 rfl (lv_at hl 0 rfl) ?_
  refine lv_iload_n hx hb dL_law_1207 rfl (lv_at hl 3 rfl) ?_
  refine lv_iconst (v := 2) hx hb dL_law_1208 (by decide) ?_
  refine lv_iadd hx hb dL_law_1209 ?_
  refine lv_topi (fun v2 ev2 => ?_)
  replace ev2 : v2 = 3 := ev2.trans (by decide)
  subst ev2
  refine va_sld hx hb hX hbl hbA hS (i_in (by decide) (by decide)) dL_law_1210 ?_
  refine lv_aload_n hx hb dL_law_1211 rfl (lv_at hl 0 rfl) ?_
  refine lv_iload_n hx hb dL_law_1212 rfl (lv_at hl 3 rfl) ?_
  refine lv_iconst (v := 3) hx hb dL_law_1213 (by decide) ?_
  refine lv_iadd hx hb dL_law_1214 ?_
  refine lv_topi (fun v3 ev3 => ?_)
  replace ev3 : v3 = 4 := ev3.trans (by decide)
  subst ev3
  refine va_sld hx hb hX hbl hbA hS (i_in (by decide) (by decide)) dL_law_1215 ?_
  refine st_i (wr := [((md 64), .inr (11, [.int 0, .long (sd.toInt64), .int 0, .ref (md 3), .ref (md 4), .ref (md 5), .int 0, .ref (md 7), .ref (md 8), .ref (md 9), .ref (md 10), .ref (md 11), .ref (md 12), .ref (md 13), .ref (md 14), .int 0, .ref (md 16), .ref (md 17), .int 0, .ref (md 19), .ref (md 20), .ref (md 21), .ref (md 22), .ref (md 23), .int 0, .int 0, .ref (md 26), .ref (md 27), .ref (md 28), .ref (md 29), .int 0, .ref (md 31), .int 0, .ref (md 33), .ref (md 34), .int 0, .int 0, .int 0, .int 0, .int 0, .int 0, .int 0, .int 0, .int 0, .int 0, .ref (md 45), .ref (md 46), .ref (md 47), .ref (md 48), .ref (md 49), .ref (md 50), .ref (md 51), .int 0, .ref (md 53), .ref (md 54), .ref (md 55), .ref (md 56), .int 0, .ref (md 58), .ref (md 59), .ref (md 60), .int 0, .ref (md 62), .int 0]))]) (va_runV (C := RX10) (As := [.int (xs ((2 : Int32).toNatClampNeg)), .int (xs ((3 : Int32).toNatClampNeg)), .int (xs ((4 : Int32).toNatClampNeg))]) (rest := []) ⟨hx, hb, hml, hown, hts⟩ (ct_X10_lot l D cI cY cJ cQ _ ad (xs ((2 : Int32).toNatClampNeg)) (xs ((3 : Int32).toNatClampNeg)) (xs ((4 : Int32).toNatClampNeg)) sd) (cwV 3 hts gL_law_X10_lot rfl rfl rfl (by decide +kernel) ⟨Nat.le_of_ble_eq_true rfl, Nat.le_of_ble_eq_true rfl⟩) (cPreV (hP.sub [0, 1] rfl) hK (hD.sub [0, 1] (by decide) rfl) hN (ci := 10) (q0 := 0) rfl rfl) rfl rfl hl.1 rfl (lv_room (Nat.le_of_ble_eq_true rfl)) dL_law_1216 ⟨Nat.le_of_ble_eq_true rfl, Nat.le_of_ble_eq_true rfl⟩) hP hD hS hA [0, 1] [2] rfl rfl (by decide) (by decide) (fun r6 u4 H locs hw5 hP hD hS => ?_)
  replace hP : va_P D vwCl [((md 64), .inr (11, [.int 0, .long (sd.toInt64), .int 0, .ref (md 3), .ref (md 4), .ref (md 5), .int 0, .ref (md 7), .ref (md 8), .ref (md 9), .ref (md 10), .ref (md 11), .ref (md 12), .ref (md 13), .ref (md 14), .int 0, .ref (md 16), .ref (md 17), .int 0, .ref (md 19), .ref (md 20), .ref (md 21), .ref (md 22), .ref (md 23), .int 0, .int 0, .ref (md 26), .ref (md 27), .ref (md 28), .ref (md 29), .int 0, .ref (md 31), .int 0, .ref (md 33), .ref (md 34), .int 0, .int 0, .int 0, .int 0, .int 0, .int 0, .int 0, .int 0, .int 0, .int 0, .ref (md 45), .ref (md 46), .ref (md 47), .ref (md 48), .ref (md 49), .ref (md 50), .ref (md 51), .int 0, .ref (md 53), .ref (md 54), .ref (md 55), .ref (md 56), .int 0, .ref (md 58), .ref (md 59), .ref (md 60), .int 0, .ref (md 62), .int 0]))] H := hP
  replace hD : va_D (fun q : Nat => s.heap.size ≤ q) [((md 64), .inr (11, [.int 0, .long (sd.toInt64), .int 0, .ref (md 3), .ref (md 4), .ref (md 5), .int 0, .ref (md 7), .ref (md 8), .ref (md 9), .ref (md 10), .ref (md 11), .ref (md 12), .ref (md 13), .ref (md 14), .int 0, .ref (md 16), .ref (md 17), .int 0, .ref (md 19), .ref (md 20), .ref (md 21), .ref (md 22), .ref (md 23), .int 0, .int 0, .ref (md 26), .ref (md 27), .ref (md 28), .ref (md 29), .int 0, .ref (md 31), .int 0, .ref (md 33), .ref (md 34), .int 0, .int 0, .int 0, .int 0, .int 0, .int 0, .int 0, .int 0, .int 0, .int 0, .ref (md 45), .ref (md 46), .ref (md 47), .ref (md 48), .ref (md 49), .ref (md 50), .ref (md 51), .int 0, .ref (md 53), .ref (md 54), .ref (md 55), .ref (md 56), .int 0, .ref (md 58), .ref (md 59), .ref (md 60), .int 0, .ref (md 62), .int 0]))] := hD
  refine lv_aload_n hx hb dL_law_1219 rfl (lv_at hl 2 rfl) ?_
  refine lv_aload_n hx hb dL_law_1220 rfl (lv_at hl 0 rfl) ?_
  refine lv_iload_n hx hb dL_law_1221 rfl (lv_at hl 3 rfl) ?_
  refine lv_iconst (v := 1) hx hb dL_law_1222 (by decide) ?_
  refine lv_iadd hx hb dL_law_1223 ?_
  refine lv_topi (fun v7 ev7 => ?_)
  replace ev7 : v7 = 2 := ev7.trans (by decide)
  subst ev7
  refine va_sld hx hb hX hbl hbA hS (i_in (by decide) (by decide)) dL_law_1224 ?_
  refine lv_aload_n hx hb dL_law_1225 rfl (lv_at hl 0 rfl) ?_
  refine lv_iload_n hx hb dL_law_1226 rfl (lv_at hl 3 rfl) ?_
  refine lv_iconst (v := 2) hx hb dL_law_1227 (by decide) ?_
  refine lv_iadd hx hb dL_law_1228 ?_
  refine lv_topi (fun v8 ev8 => ?_)
  replace ev8 : v8 = 3 := ev8.trans (by decide)
  subst ev8
  refine va_sld hx hb hX hbl hbA hS (i_in (by decide) (by decide)) dL_law_1229 ?_
  refine lv_aload_n hx hb dL_law_1230 rfl (lv_at hl 0 rfl) ?_
  refine lv_iload_n hx hb dL_law_1231 rfl (lv_at hl 3 rfl) ?_
  refine lv_iconst (v := 3) hx hb dL_law_1232 (by decide) ?_
  refine lv_iadd hx hb dL_law_1233 ?_
  refine lv_topi (fun v9 ev9 => ?_)
  replace ev9 : v9 = 4 := ev9.trans (by decide)
  subst ev9
  refine va_sld hx hb hX hbl hbA hS (i_in (by decide) (by decide)) dL_law_1234 ?_
  refine st_i (wr := []) (va_runV (C := RX11) (As := [.int (xs ((2 : Int32).toNatClampNeg)), .int (xs ((3 : Int32).toNatClampNeg)), .int (xs ((4 : Int32).toNatClampNeg))]) (rest := [.int r6]) ⟨hx, hb, hml, hown, hts⟩ (ct_X11_lot l D cI cY cJ cQ _ md sd (xs ((2 : Int32).toNatClampNeg)) (xs ((3 : Int32).toNatClampNeg)) (xs ((4 : Int32).toNatClampNeg))) (cwV 3 hts gL_law_X11_lot rfl rfl rfl (by decide +kernel) ⟨Nat.le_of_ble_eq_true rfl, Nat.le_of_ble_eq_true rfl⟩) (cPreV (hP.sub [0] rfl) hK (hD.sub [0] (by decide) rfl) hN (ci := 11) (q0 := 0) rfl rfl) rfl rfl hl.1 rfl (lv_room (Nat.le_of_ble_eq_true rfl)) dL_law_1235 ⟨Nat.le_of_ble_eq_true rfl, Nat.le_of_ble_eq_true rfl⟩) hP hD hS hA [0] [] rfl rfl (by decide) (by decide) (fun r12 u10 H locs hw11 hP hD hS => ?_)
  replace hP : va_P D vwCl [] H := hP
  replace hD : va_D (fun q : Nat => s.heap.size ≤ q) [] := hD
  refine lv_icmp_eq (tgt := 1652) hx hb dL_law_1238 (by decide) (fun _ => ?_) (fun c13 => by exfalso; exact c13 (hw5.trans hw11.symm))
  exact law_tail C0k hS (lv_sub hl [0, 3] rfl)

set_option maxHeartbeats 4000000 in
set_option maxRecDepth 100000 in
theorem law_case_25 {p : Program} {l : Launch} {e : Env} {s : State} {m : MethodId} {below : List Frame} {meth : Method} {c : Code} {D : va_G} {cI cY cJ cQ : ClassId} {b : Nat} {xs : Nat → Int32} {ad rw md : Nat → Nat} {sd : Int32} {H : Heap} {locs : List Loc} {ls : Array Slot} (C0 : lawC p s m meth c b xs D cI cY cJ cQ) (hP : va_P D vwCl [((ad 0), .inr (10, [.ref (ad 1), .ref (ad 2), .ref (ad 3), .ref (ad 4), .ref (ad 5), .ref (ad 6), .ref (ad 7), .ref (ad 8), .ref (ad 9), .ref (ad 10), .ref (ad 11), .int 0, .int 0, .int 0])), ((ad 3), .inr (1, [.ref (ad 31), .ref (ad 32), .ref (ad 33), .int 0, .ref (ad 34), .ref (ad 35)])), ((ad 8), .inr (5, [.int sd, .ref (ad 58)])), ((md 64), .inr (11, [.int 0, .long (sd.toInt64), .int 0, .ref (md 3), .ref (md 4), .ref (md 5), .int 0, .ref (md 7), .ref (md 8), .ref (md 9), .ref (md 10), .ref (md 11), .ref (md 12), .ref (md 13), .ref (md 14), .int 0, .ref (md 16), .ref (md 17), .int 0, .ref (md 19), .ref (md 20), .ref (md 21), .ref (md 22), .ref (md 23), .int 0, .int 0, .ref (md 26), .ref (md 27), .ref (md 28), .ref (md 29), .int 0, .ref (md 31), .int 0, .ref (md 33), .ref (md 34), .int 0, .int 0, .int 0, .int 0, .int 0, .int 0, .int 0, .int 0, .int 0, .int 0, .ref (md 45), .ref (md 46), .ref (md 47), .ref (md 48), .ref (md 49), .ref (md 50), .ref (md 51), .int 0, .ref (md 53), .ref (md 54), .ref (md 55), .ref (md 56), .int 0, .ref (md 58), .ref (md 59), .ref (md 60), .int 0, .ref (md 62), .int 0]))] H) (hD : va_D (fun q : Nat => s.heap.size ≤ q) [((ad 0), .inr (10, [.ref (ad 1), .ref (ad 2), .ref (ad 3), .ref (ad 4), .ref (ad 5), .ref (ad 6), .ref (ad 7), .ref (ad 8), .ref (ad 9), .ref (ad 10), .ref (ad 11), .int 0, .int 0, .int 0])), ((ad 3), .inr (1, [.ref (ad 31), .ref (ad 32), .ref (ad 33), .int 0, .ref (ad 34), .ref (ad 35)])), ((ad 8), .inr (5, [.int sd, .ref (ad 58)])), ((md 64), .inr (11, [.int 0, .long (sd.toInt64), .int 0, .ref (md 3), .ref (md 4), .ref (md 5), .int 0, .ref (md 7), .ref (md 8), .ref (md 9), .ref (md 10), .ref (md 11), .ref (md 12), .ref (md 13), .ref (md 14), .int 0, .ref (md 16), .ref (md 17), .int 0, .ref (md 19), .ref (md 20), .ref (md 21), .ref (md 22), .ref (md 23), .int 0, .int 0, .ref (md 26), .ref (md 27), .ref (md 28), .ref (md 29), .int 0, .ref (md 31), .int 0, .ref (md 33), .ref (md 34), .int 0, .int 0, .int 0, .int 0, .int 0, .int 0, .int 0, .int 0, .int 0, .int 0, .ref (md 45), .ref (md 46), .ref (md 47), .ref (md 48), .ref (md 49), .ref (md 50), .ref (md 51), .int 0, .ref (md 53), .ref (md 54), .ref (md 55), .ref (md 56), .int 0, .ref (md 58), .ref (md 59), .ref (md 60), .int 0, .ref (md 62), .int 0]))]) (hS : va_S (fun q : Nat => s.heap.size ≤ q) s.heap H locs) (hl : lv_has ls 4 [(0, .ref b), (1, .ref (ad 0)), (2, .ref (md 64)), (3, .int 1)]) : W p l e room_1 s m #[Value.ref b] below meth c H locs 107 4890 (lw_Z below #[Value.ref b] s) (F0 m 1243 ls []) := by
  have C0k := C0
  obtain ⟨C1, hK, hN⟩ := C0
  obtain ⟨hx, hb, hr, hml, hown, hts0, hX, hbl, hlocks, hgv⟩ := C1
  have hA : ∀ q : Nat, s.heap.size ≤ q → (fun q : Nat => s.heap.size ≤ q) q := fun _ h => h
  have hbA : ¬ (fun q : Nat => s.heap.size ≤ q) b := Nat.not_le.mpr hbl
  have hts : ∀ w ∈ wsL_law, w.before #[Value.ref b] s = true := fun w h => hts0 w (wsL_law_in w h)
  replace hown : s.vm.findClass RL = some m.cls := hown
  replace hb : c.code = cL_law := hb
  have hLI : (Int32.ofNat 7).toInt = 7 := by decide
  refine lv_aload_n hx hb dL_law_1243 rfl (lv_at hl 1 rfl) ?_
  refine lv_aload_n hx hb dL_law_1244 rfl (lv_at hl 0 rfl) ?_
  refine lv_iload_n hx hb dL_law_1245 rfl (lv_at hl 3 rfl) ?_
  refine lv_iconst (v := 1) hx hb dL_law_1246 (by decide) ?_
  refine lv_iadd hx hb dL_law_1247 ?_
  refine lv_topi (fun v1 ev1 => ?_)
  replace ev1 : v1 = 2 := ev1.trans (by decide)
  subst ev1
  refine va_sld hx hb hX hbl hbA hS (i_in (by decide) (by decide)) dL_law_1248 ?_
  refine lv_aload_n hx hb dL_law_1249 rfl (lv_at hl 0 rfl) ?_
  refine lv_iload_n hx hb dL_law_1250 rfl (lv_at hl 3 rfl) ?_
  refine lv_iconst (v := 2) hx hb dL_law_1251 (by decide) ?_
  refine lv_iadd hx hb dL_law_1252 ?_
  refine lv_topi (fun v2 ev2 => ?_)
  replace ev2 : v2 = 3 := ev2.trans (by decide)
  subst ev2
  refine va_sld hx hb hX hbl hbA hS (i_in (by decide) (by decide)) dL_law_1253 ?_
  refine st_i (wr := [((md 64), .inr (11, [.int 0, .long (sd.toInt64), .int 0, .ref (md 3), .ref (md 4), .ref (md 5), .int 0, .ref (md 7), .ref (md 8), .ref (md 9), .ref (md 10), .ref (md 11), .ref (md 12), .ref (md 13), .ref (md 14), .int 0, .ref (md 16), .ref (md 17), .int 0, .ref (md 19), .ref (md 20), .ref (md 21), .ref (md 22), .ref (md 23), .int 0, .int 0, .ref (md 26), .ref (md 27), .ref (md 28), .ref (md 29), .int 0, .ref (md 31), .int 0, .ref (md 33), .ref (md 34), .int 0, .int 0, .int 0, .int 0, .int 0, .int 0, .int 0, .int 0, .int 0, .int 0, .ref (md 45), .ref (md 46), .ref (md 47), .ref (md 48), .ref (md 49), .ref (md 50), .ref (md 51), .int 0, .ref (md 53), .ref (md 54), .ref (md 55), .ref (md 56), .int 0, .ref (md 58), .ref (md 59), .ref (md 60), .int 0, .ref (md 62), .int 0]))]) (va_runV (C := RX10) (As := [.int (xs ((2 : Int32).toNatClampNeg)), .int (xs ((3 : Int32).toNatClampNeg))]) (rest := []) ⟨hx, hb, hml, hown, hts⟩ (ct_X10_drawn l D cI cY cJ cQ _ ad (xs ((2 : Int32).toNatClampNeg)) (xs ((3 : Int32).toNatClampNeg)) sd) (cwV 2 hts gL_law_X10_drawn rfl rfl rfl (by decide +kernel) ⟨Nat.le_of_ble_eq_true rfl, Nat.le_of_ble_eq_true rfl⟩) (cPreV (hP.sub [0, 1, 2] rfl) hK (hD.sub [0, 1, 2] (by decide) rfl) hN (ci := 10) (q0 := 0) rfl rfl) rfl rfl hl.1 rfl (lv_room (Nat.le_of_ble_eq_true rfl)) dL_law_1254 ⟨Nat.le_of_ble_eq_true rfl, Nat.le_of_ble_eq_true rfl⟩) hP hD hS hA [0, 1, 2] [3] rfl rfl (by decide) (by decide) (fun r5 u3 H locs hw4 hP hD hS => ?_)
  replace hP : va_P D vwCl [((md 64), .inr (11, [.int 0, .long (sd.toInt64), .int 0, .ref (md 3), .ref (md 4), .ref (md 5), .int 0, .ref (md 7), .ref (md 8), .ref (md 9), .ref (md 10), .ref (md 11), .ref (md 12), .ref (md 13), .ref (md 14), .int 0, .ref (md 16), .ref (md 17), .int 0, .ref (md 19), .ref (md 20), .ref (md 21), .ref (md 22), .ref (md 23), .int 0, .int 0, .ref (md 26), .ref (md 27), .ref (md 28), .ref (md 29), .int 0, .ref (md 31), .int 0, .ref (md 33), .ref (md 34), .int 0, .int 0, .int 0, .int 0, .int 0, .int 0, .int 0, .int 0, .int 0, .int 0, .ref (md 45), .ref (md 46), .ref (md 47), .ref (md 48), .ref (md 49), .ref (md 50), .ref (md 51), .int 0, .ref (md 53), .ref (md 54), .ref (md 55), .ref (md 56), .int 0, .ref (md 58), .ref (md 59), .ref (md 60), .int 0, .ref (md 62), .int 0]))] H := hP
  replace hD : va_D (fun q : Nat => s.heap.size ≤ q) [((md 64), .inr (11, [.int 0, .long (sd.toInt64), .int 0, .ref (md 3), .ref (md 4), .ref (md 5), .int 0, .ref (md 7), .ref (md 8), .ref (md 9), .ref (md 10), .ref (md 11), .ref (md 12), .ref (md 13), .ref (md 14), .int 0, .ref (md 16), .ref (md 17), .int 0, .ref (md 19), .ref (md 20), .ref (md 21), .ref (md 22), .ref (md 23), .int 0, .int 0, .ref (md 26), .ref (md 27), .ref (md 28), .ref (md 29), .int 0, .ref (md 31), .int 0, .ref (md 33), .ref (md 34), .int 0, .int 0, .int 0, .int 0, .int 0, .int 0, .int 0, .int 0, .int 0, .int 0, .ref (md 45), .ref (md 46), .ref (md 47), .ref (md 48), .ref (md 49), .ref (md 50), .ref (md 51), .int 0, .ref (md 53), .ref (md 54), .ref (md 55), .ref (md 56), .int 0, .ref (md 58), .ref (md 59), .ref (md 60), .int 0, .ref (md 62), .int 0]))] := hD
  refine lv_aload_n hx hb dL_law_1257 rfl (lv_at hl 2 rfl) ?_
  refine lv_aload_n hx hb dL_law_1258 rfl (lv_at hl 0 rfl) ?_
  refine lv_iload_n hx hb dL_law_1259 rfl (lv_at hl 3 rfl) ?_
  refine lv_iconst (v := 1) hx hb dL_law_1260 (by decide) ?_
  refine lv_iadd hx hb dL_law_1261 ?_
  refine lv_topi (fun v6 ev6 => ?_)
  replace ev6 : v6 = 2 := ev6.trans (by decide)
  subst ev6
  refine va_sld hx hb hX hbl hbA hS (i_in (by decide) (by decide)) dL_law_1262 ?_
  refine lv_aload_n hx hb dL_law_1263 rfl (lv_at hl 0 rfl) ?_
  refine lv_iload_n hx hb dL_law_1264 rfl (lv_at hl 3 rfl) ?_
  refine lv_iconst (v := 2) hx hb dL_law_1265 (by decide) ?_
  refine lv_iadd hx hb dL_law_1266 ?_
  refine lv_topi (fun v7 ev7 => ?_)
  replace ev7 : v7 = 3 := ev7.trans (by decide)
  subst ev7
  refine va_sld hx hb hX hbl hbA hS (i_in (by decide) (by decide)) dL_law_1267 ?_
  refine st_i (wr := []) (va_runV (C := RX11) (As := [.int (xs ((2 : Int32).toNatClampNeg)), .int (xs ((3 : Int32).toNatClampNeg))]) (rest := [.int r5]) ⟨hx, hb, hml, hown, hts⟩ (ct_X11_drawn l D cI cY cJ cQ _ md sd (xs ((2 : Int32).toNatClampNeg)) (xs ((3 : Int32).toNatClampNeg))) (cwV 2 hts gL_law_X11_drawn rfl rfl rfl (by decide +kernel) ⟨Nat.le_of_ble_eq_true rfl, Nat.le_of_ble_eq_true rfl⟩) (cPreV (hP.sub [0] rfl) hK (hD.sub [0] (by decide) rfl) hN (ci := 11) (q0 := 0) rfl rfl) rfl rfl hl.1 rfl (lv_room (Nat.le_of_ble_eq_true rfl)) dL_law_1268 ⟨Nat.le_of_ble_eq_true rfl, Nat.le_of_ble_eq_true rfl⟩) hP hD hS hA [0] [] rfl rfl (by decide) (by decide) (fun r10 u8 H locs hw9 hP hD hS => ?_)
  replace hP : va_P D vwCl [] H := hP
  replace hD : va_D (fun q : Nat => s.heap.size ≤ q) [] := hD
  refine lv_icmp_eq (tgt := 1652) hx hb dL_law_1271 (by decide) (fun _ => ?_) (fun c11 => by exfalso; exact c11 (hw4.trans hw9.symm))
  exact law_tail C0k hS (lv_sub hl [0, 3] rfl)

set_option maxHeartbeats 4000000 in
set_option maxRecDepth 100000 in
theorem law_case_26 {p : Program} {l : Launch} {e : Env} {s : State} {m : MethodId} {below : List Frame} {meth : Method} {c : Code} {D : va_G} {cI cY cJ cQ : ClassId} {b : Nat} {xs : Nat → Int32} {ad rw md : Nat → Nat} {sd : Int32} {H : Heap} {locs : List Loc} {ls : Array Slot} (C0 : lawC p s m meth c b xs D cI cY cJ cQ) (hP : va_P D vwCl [((ad 0), .inr (10, [.ref (ad 1), .ref (ad 2), .ref (ad 3), .ref (ad 4), .ref (ad 5), .ref (ad 6), .ref (ad 7), .ref (ad 8), .ref (ad 9), .ref (ad 10), .ref (ad 11), .int 0, .int 0, .int 0])), ((ad 3), .inr (1, [.ref (ad 31), .ref (ad 32), .ref (ad 33), .int 0, .ref (ad 34), .ref (ad 35)])), ((md 64), .inr (11, [.int 0, .long (sd.toInt64), .int 0, .ref (md 3), .ref (md 4), .ref (md 5), .int 0, .ref (md 7), .ref (md 8), .ref (md 9), .ref (md 10), .ref (md 11), .ref (md 12), .ref (md 13), .ref (md 14), .int 0, .ref (md 16), .ref (md 17), .int 0, .ref (md 19), .ref (md 20), .ref (md 21), .ref (md 22), .ref (md 23), .int 0, .int 0, .ref (md 26), .ref (md 27), .ref (md 28), .ref (md 29), .int 0, .ref (md 31), .int 0, .ref (md 33), .ref (md 34), .int 0, .int 0, .int 0, .int 0, .int 0, .int 0, .int 0, .int 0, .int 0, .int 0, .ref (md 45), .ref (md 46), .ref (md 47), .ref (md 48), .ref (md 49), .ref (md 50), .ref (md 51), .int 0, .ref (md 53), .ref (md 54), .ref (md 55), .ref (md 56), .int 0, .ref (md 58), .ref (md 59), .ref (md 60), .int 0, .ref (md 62), .int 0]))] H) (hD : va_D (fun q : Nat => s.heap.size ≤ q) [((ad 0), .inr (10, [.ref (ad 1), .ref (ad 2), .ref (ad 3), .ref (ad 4), .ref (ad 5), .ref (ad 6), .ref (ad 7), .ref (ad 8), .ref (ad 9), .ref (ad 10), .ref (ad 11), .int 0, .int 0, .int 0])), ((ad 3), .inr (1, [.ref (ad 31), .ref (ad 32), .ref (ad 33), .int 0, .ref (ad 34), .ref (ad 35)])), ((md 64), .inr (11, [.int 0, .long (sd.toInt64), .int 0, .ref (md 3), .ref (md 4), .ref (md 5), .int 0, .ref (md 7), .ref (md 8), .ref (md 9), .ref (md 10), .ref (md 11), .ref (md 12), .ref (md 13), .ref (md 14), .int 0, .ref (md 16), .ref (md 17), .int 0, .ref (md 19), .ref (md 20), .ref (md 21), .ref (md 22), .ref (md 23), .int 0, .int 0, .ref (md 26), .ref (md 27), .ref (md 28), .ref (md 29), .int 0, .ref (md 31), .int 0, .ref (md 33), .ref (md 34), .int 0, .int 0, .int 0, .int 0, .int 0, .int 0, .int 0, .int 0, .int 0, .int 0, .ref (md 45), .ref (md 46), .ref (md 47), .ref (md 48), .ref (md 49), .ref (md 50), .ref (md 51), .int 0, .ref (md 53), .ref (md 54), .ref (md 55), .ref (md 56), .int 0, .ref (md 58), .ref (md 59), .ref (md 60), .int 0, .ref (md 62), .int 0]))]) (hS : va_S (fun q : Nat => s.heap.size ≤ q) s.heap H locs) (hl : lv_has ls 4 [(0, .ref b), (1, .ref (ad 0)), (2, .ref (md 64)), (3, .int 1)]) : W p l e room_1 s m #[Value.ref b] below meth c H locs 107 4890 (lw_Z below #[Value.ref b] s) (F0 m 1276 ls []) := by
  have C0k := C0
  obtain ⟨C1, hK, hN⟩ := C0
  obtain ⟨hx, hb, hr, hml, hown, hts0, hX, hbl, hlocks, hgv⟩ := C1
  have hA : ∀ q : Nat, s.heap.size ≤ q → (fun q : Nat => s.heap.size ≤ q) q := fun _ h => h
  have hbA : ¬ (fun q : Nat => s.heap.size ≤ q) b := Nat.not_le.mpr hbl
  have hts : ∀ w ∈ wsL_law, w.before #[Value.ref b] s = true := fun w h => hts0 w (wsL_law_in w h)
  replace hown : s.vm.findClass RL = some m.cls := hown
  replace hb : c.code = cL_law := hb
  have hLI : (Int32.ofNat 7).toInt = 7 := by decide
  refine lv_aload_n hx hb dL_law_1276 rfl (lv_at hl 1 rfl) ?_
  refine lv_aload_n hx hb dL_law_1277 rfl (lv_at hl 0 rfl) ?_
  refine lv_iload_n hx hb dL_law_1278 rfl (lv_at hl 3 rfl) ?_
  refine lv_iconst (v := 1) hx hb dL_law_1279 (by decide) ?_
  refine lv_iadd hx hb dL_law_1280 ?_
  refine lv_topi (fun v1 ev1 => ?_)
  replace ev1 : v1 = 2 := ev1.trans (by decide)
  subst ev1
  refine va_sld hx hb hX hbl hbA hS (i_in (by decide) (by decide)) dL_law_1281 ?_
  refine lv_aload_n hx hb dL_law_1282 rfl (lv_at hl 0 rfl) ?_
  refine lv_iload_n hx hb dL_law_1283 rfl (lv_at hl 3 rfl) ?_
  refine lv_iconst (v := 2) hx hb dL_law_1284 (by decide) ?_
  refine lv_iadd hx hb dL_law_1285 ?_
  refine lv_topi (fun v2 ev2 => ?_)
  replace ev2 : v2 = 3 := ev2.trans (by decide)
  subst ev2
  refine va_sld hx hb hX hbl hbA hS (i_in (by decide) (by decide)) dL_law_1286 ?_
  refine lv_aload_n hx hb dL_law_1287 rfl (lv_at hl 0 rfl) ?_
  refine lv_iload_n hx hb dL_law_1288 rfl (lv_at hl 3 rfl) ?_
  refine lv_iconst (v := 3) hx hb dL_law_1289 (by decide) ?_
  refine lv_iadd hx hb dL_law_1290 ?_
  refine lv_topi (fun v3 ev3 => ?_)
  replace ev3 : v3 = 4 := ev3.trans (by decide)
  subst ev3
  refine va_sld hx hb hX hbl hbA hS (i_in (by decide) (by decide)) dL_law_1291 ?_
  refine lv_aload_n hx hb dL_law_1292 rfl (lv_at hl 0 rfl) ?_
  refine lv_iload_n hx hb dL_law_1293 rfl (lv_at hl 3 rfl) ?_
  refine lv_iconst (v := 4) hx hb dL_law_1294 (by decide) ?_
  refine lv_iadd hx hb dL_law_1295 ?_
  refine lv_topi (fun v4 ev4 => ?_)
  replace ev4 : v4 = 5 := ev4.trans (by decide)
  subst ev4
  refine va_sld hx hb hX hbl hbA hS (i_in (by decide) (by decide)) dL_law_1296 ?_
  refine st_i (wr := [((md 64), .inr (11, [.int 0, .long (sd.toInt64), .int 0, .ref (md 3), .ref (md 4), .ref (md 5), .int 0, .ref (md 7), .ref (md 8), .ref (md 9), .ref (md 10), .ref (md 11), .ref (md 12), .ref (md 13), .ref (md 14), .int 0, .ref (md 16), .ref (md 17), .int 0, .ref (md 19), .ref (md 20), .ref (md 21), .ref (md 22), .ref (md 23), .int 0, .int 0, .ref (md 26), .ref (md 27), .ref (md 28), .ref (md 29), .int 0, .ref (md 31), .int 0, .ref (md 33), .ref (md 34), .int 0, .int 0, .int 0, .int 0, .int 0, .int 0, .int 0, .int 0, .int 0, .int 0, .ref (md 45), .ref (md 46), .ref (md 47), .ref (md 48), .ref (md 49), .ref (md 50), .ref (md 51), .int 0, .ref (md 53), .ref (md 54), .ref (md 55), .ref (md 56), .int 0, .ref (md 58), .ref (md 59), .ref (md 60), .int 0, .ref (md 62), .int 0]))]) (va_runV (C := RX10) (As := [.int (xs ((2 : Int32).toNatClampNeg)), .int (xs ((3 : Int32).toNatClampNeg)), .int (xs ((4 : Int32).toNatClampNeg)), .int (xs ((5 : Int32).toNatClampNeg))]) (rest := []) ⟨hx, hb, hml, hown, hts⟩ (ct_X10_often l D cI cY cJ cQ _ ad (xs ((2 : Int32).toNatClampNeg)) (xs ((3 : Int32).toNatClampNeg)) (xs ((4 : Int32).toNatClampNeg)) (xs ((5 : Int32).toNatClampNeg))) (cwV 4 hts gL_law_X10_often rfl rfl rfl (by decide +kernel) ⟨Nat.le_of_ble_eq_true rfl, Nat.le_of_ble_eq_true rfl⟩) (cPreV (hP.sub [0, 1] rfl) hK (hD.sub [0, 1] (by decide) rfl) hN (ci := 10) (q0 := 0) rfl rfl) rfl rfl hl.1 rfl (lv_room (Nat.le_of_ble_eq_true rfl)) dL_law_1297 ⟨Nat.le_of_ble_eq_true rfl, Nat.le_of_ble_eq_true rfl⟩) hP hD hS hA [0, 1] [2] rfl rfl (by decide) (by decide) (fun r7 u5 H locs hw6 hP hD hS => ?_)
  replace hP : va_P D vwCl [((md 64), .inr (11, [.int 0, .long (sd.toInt64), .int 0, .ref (md 3), .ref (md 4), .ref (md 5), .int 0, .ref (md 7), .ref (md 8), .ref (md 9), .ref (md 10), .ref (md 11), .ref (md 12), .ref (md 13), .ref (md 14), .int 0, .ref (md 16), .ref (md 17), .int 0, .ref (md 19), .ref (md 20), .ref (md 21), .ref (md 22), .ref (md 23), .int 0, .int 0, .ref (md 26), .ref (md 27), .ref (md 28), .ref (md 29), .int 0, .ref (md 31), .int 0, .ref (md 33), .ref (md 34), .int 0, .int 0, .int 0, .int 0, .int 0, .int 0, .int 0, .int 0, .int 0, .int 0, .ref (md 45), .ref (md 46), .ref (md 47), .ref (md 48), .ref (md 49), .ref (md 50), .ref (md 51), .int 0, .ref (md 53), .ref (md 54), .ref (md 55), .ref (md 56), .int 0, .ref (md 58), .ref (md 59), .ref (md 60), .int 0, .ref (md 62), .int 0]))] H := hP
  replace hD : va_D (fun q : Nat => s.heap.size ≤ q) [((md 64), .inr (11, [.int 0, .long (sd.toInt64), .int 0, .ref (md 3), .ref (md 4), .ref (md 5), .int 0, .ref (md 7), .ref (md 8), .ref (md 9), .ref (md 10), .ref (md 11), .ref (md 12), .ref (md 13), .ref (md 14), .int 0, .ref (md 16), .ref (md 17), .int 0, .ref (md 19), .ref (md 20), .ref (md 21), .ref (md 22), .ref (md 23), .int 0, .int 0, .ref (md 26), .ref (md 27), .ref (md 28), .ref (md 29), .int 0, .ref (md 31), .int 0, .ref (md 33), .ref (md 34), .int 0, .int 0, .int 0, .int 0, .int 0, .int 0, .int 0, .int 0, .int 0, .int 0, .ref (md 45), .ref (md 46), .ref (md 47), .ref (md 48), .ref (md 49), .ref (md 50), .ref (md 51), .int 0, .ref (md 53), .ref (md 54), .ref (md 55), .ref (md 56), .int 0, .ref (md 58), .ref (md 59), .ref (md 60), .int 0, .ref (md 62), .int 0]))] := hD
  refine lv_aload_n hx hb dL_law_1300 rfl (lv_at hl 2 rfl) ?_
  refine lv_aload_n hx hb dL_law_1301 rfl (lv_at hl 0 rfl) ?_
  refine lv_iload_n hx hb dL_law_1302 rfl (lv_at hl 3 rfl) ?_
  refine lv_iconst (v := 1) hx hb dL_law_1303 (by decide) ?_
  refine lv_iadd hx hb dL_law_1304 ?_
  refine lv_topi (fun v8 ev8 => ?_)
  replace ev8 : v8 = 2 := ev8.trans (by decide)
  subst ev8
  refine va_sld hx hb hX hbl hbA hS (i_in (by decide) (by decide)) dL_law_1305 ?_
  refine lv_aload_n hx hb dL_law_1306 rfl (lv_at hl 0 rfl) ?_
  refine lv_iload_n hx hb dL_law_1307 rfl (lv_at hl 3 rfl) ?_
  refine lv_iconst (v := 2) hx hb dL_law_1308 (by decide) ?_
  refine lv_iadd hx hb dL_law_1309 ?_
  refine lv_topi (fun v9 ev9 => ?_)
  replace ev9 : v9 = 3 := ev9.trans (by decide)
  subst ev9
  refine va_sld hx hb hX hbl hbA hS (i_in (by decide) (by decide)) dL_law_1310 ?_
  refine lv_aload_n hx hb dL_law_1311 rfl (lv_at hl 0 rfl) ?_
  refine lv_iload_n hx hb dL_law_1312 rfl (lv_at hl 3 rfl) ?_
  refine lv_iconst (v := 3) hx hb dL_law_1313 (by decide) ?_
  refine lv_iadd hx hb dL_law_1314 ?_
  refine lv_topi (fun v10 ev10 => ?_)
  replace ev10 : v10 = 4 := ev10.trans (by decide)
  subst ev10
  refine va_sld hx hb hX hbl hbA hS (i_in (by decide) (by decide)) dL_law_1315 ?_
  refine lv_aload_n hx hb dL_law_1316 rfl (lv_at hl 0 rfl) ?_
  refine lv_iload_n hx hb dL_law_1317 rfl (lv_at hl 3 rfl) ?_
  refine lv_iconst (v := 4) hx hb dL_law_1318 (by decide) ?_
  refine lv_iadd hx hb dL_law_1319 ?_
  refine lv_topi (fun v11 ev11 => ?_)
  replace ev11 : v11 = 5 := ev11.trans (by decide)
  subst ev11
  refine va_sld hx hb hX hbl hbA hS (i_in (by decide) (by decide)) dL_law_1320 ?_
  refine st_i (wr := []) (va_runV (C := RX11) (As := [.int (xs ((2 : Int32).toNatClampNeg)), .int (xs ((3 : Int32).toNatClampNeg)), .int (xs ((4 : Int32).toNatClampNeg)), .int (xs ((5 : Int32).toNatClampNeg))]) (rest := [.int r7]) ⟨hx, hb, hml, hown, hts⟩ (ct_X11_often l D cI cY cJ cQ _ md sd (xs ((2 : Int32).toNatClampNeg)) (xs ((3 : Int32).toNatClampNeg)) (xs ((4 : Int32).toNatClampNeg)) (xs ((5 : Int32).toNatClampNeg))) (cwV 4 hts gL_law_X11_often rfl rfl rfl (by decide +kernel) ⟨Nat.le_of_ble_eq_true rfl, Nat.le_of_ble_eq_true rfl⟩) (cPreV (hP.sub [0] rfl) hK (hD.sub [0] (by decide) rfl) hN (ci := 11) (q0 := 0) rfl rfl) rfl rfl hl.1 rfl (lv_room (Nat.le_of_ble_eq_true rfl)) dL_law_1321 ⟨Nat.le_of_ble_eq_true rfl, Nat.le_of_ble_eq_true rfl⟩) hP hD hS hA [0] [] rfl rfl (by decide) (by decide) (fun r14 u12 H locs hw13 hP hD hS => ?_)
  replace hP : va_P D vwCl [] H := hP
  replace hD : va_D (fun q : Nat => s.heap.size ≤ q) [] := hD
  refine lv_icmp_eq (tgt := 1652) hx hb dL_law_1324 (by decide) (fun _ => ?_) (fun c15 => by exfalso; exact c15 (hw6.trans hw13.symm))
  exact law_tail C0k hS (lv_sub hl [0, 3] rfl)

set_option maxHeartbeats 4000000 in
set_option maxRecDepth 100000 in
theorem law_case_27 {p : Program} {l : Launch} {e : Env} {s : State} {m : MethodId} {below : List Frame} {meth : Method} {c : Code} {D : va_G} {cI cY cJ cQ : ClassId} {b : Nat} {xs : Nat → Int32} {ad rw md : Nat → Nat} {sd : Int32} {H : Heap} {locs : List Loc} {ls : Array Slot} (C0 : lawC p s m meth c b xs D cI cY cJ cQ) (hP : va_P D vwCl [((ad 0), .inr (10, [.ref (ad 1), .ref (ad 2), .ref (ad 3), .ref (ad 4), .ref (ad 5), .ref (ad 6), .ref (ad 7), .ref (ad 8), .ref (ad 9), .ref (ad 10), .ref (ad 11), .int 0, .int 0, .int 0])), ((ad 3), .inr (1, [.ref (ad 31), .ref (ad 32), .ref (ad 33), .int 0, .ref (ad 34), .ref (ad 35)])), ((md 64), .inr (11, [.int 0, .long (sd.toInt64), .int 0, .ref (md 3), .ref (md 4), .ref (md 5), .int 0, .ref (md 7), .ref (md 8), .ref (md 9), .ref (md 10), .ref (md 11), .ref (md 12), .ref (md 13), .ref (md 14), .int 0, .ref (md 16), .ref (md 17), .int 0, .ref (md 19), .ref (md 20), .ref (md 21), .ref (md 22), .ref (md 23), .int 0, .int 0, .ref (md 26), .ref (md 27), .ref (md 28), .ref (md 29), .int 0, .ref (md 31), .int 0, .ref (md 33), .ref (md 34), .int 0, .int 0, .int 0, .int 0, .int 0, .int 0, .int 0, .int 0, .int 0, .int 0, .ref (md 45), .ref (md 46), .ref (md 47), .ref (md 48), .ref (md 49), .ref (md 50), .ref (md 51), .int 0, .ref (md 53), .ref (md 54), .ref (md 55), .ref (md 56), .int 0, .ref (md 58), .ref (md 59), .ref (md 60), .int 0, .ref (md 62), .int 0]))] H) (hD : va_D (fun q : Nat => s.heap.size ≤ q) [((ad 0), .inr (10, [.ref (ad 1), .ref (ad 2), .ref (ad 3), .ref (ad 4), .ref (ad 5), .ref (ad 6), .ref (ad 7), .ref (ad 8), .ref (ad 9), .ref (ad 10), .ref (ad 11), .int 0, .int 0, .int 0])), ((ad 3), .inr (1, [.ref (ad 31), .ref (ad 32), .ref (ad 33), .int 0, .ref (ad 34), .ref (ad 35)])), ((md 64), .inr (11, [.int 0, .long (sd.toInt64), .int 0, .ref (md 3), .ref (md 4), .ref (md 5), .int 0, .ref (md 7), .ref (md 8), .ref (md 9), .ref (md 10), .ref (md 11), .ref (md 12), .ref (md 13), .ref (md 14), .int 0, .ref (md 16), .ref (md 17), .int 0, .ref (md 19), .ref (md 20), .ref (md 21), .ref (md 22), .ref (md 23), .int 0, .int 0, .ref (md 26), .ref (md 27), .ref (md 28), .ref (md 29), .int 0, .ref (md 31), .int 0, .ref (md 33), .ref (md 34), .int 0, .int 0, .int 0, .int 0, .int 0, .int 0, .int 0, .int 0, .int 0, .int 0, .ref (md 45), .ref (md 46), .ref (md 47), .ref (md 48), .ref (md 49), .ref (md 50), .ref (md 51), .int 0, .ref (md 53), .ref (md 54), .ref (md 55), .ref (md 56), .int 0, .ref (md 58), .ref (md 59), .ref (md 60), .int 0, .ref (md 62), .int 0]))]) (hS : va_S (fun q : Nat => s.heap.size ≤ q) s.heap H locs) (hl : lv_has ls 4 [(0, .ref b), (1, .ref (ad 0)), (2, .ref (md 64)), (3, .int 1)]) : W p l e room_1 s m #[Value.ref b] below meth c H locs 107 4890 (lw_Z below #[Value.ref b] s) (F0 m 1329 ls []) := by
  have C0k := C0
  obtain ⟨C1, hK, hN⟩ := C0
  obtain ⟨hx, hb, hr, hml, hown, hts0, hX, hbl, hlocks, hgv⟩ := C1
  have hA : ∀ q : Nat, s.heap.size ≤ q → (fun q : Nat => s.heap.size ≤ q) q := fun _ h => h
  have hbA : ¬ (fun q : Nat => s.heap.size ≤ q) b := Nat.not_le.mpr hbl
  have hts : ∀ w ∈ wsL_law, w.before #[Value.ref b] s = true := fun w h => hts0 w (wsL_law_in w h)
  replace hown : s.vm.findClass RL = some m.cls := hown
  replace hb : c.code = cL_law := hb
  have hLI : (Int32.ofNat 7).toInt = 7 := by decide
  refine lv_aload_n hx hb dL_law_1329 rfl (lv_at hl 1 rfl) ?_
  refine lv_aload_n hx hb dL_law_1330 rfl (lv_at hl 0 rfl) ?_
  refine lv_iload_n hx hb dL_law_1331 rfl (lv_at hl 3 rfl) ?_
  refine lv_iconst (v := 1) hx hb dL_law_1332 (by decide) ?_
  refine lv_iadd hx hb dL_law_1333 ?_
  refine lv_topi (fun v1 ev1 => ?_)
  replace ev1 : v1 = 2 := ev1.trans (by decide)
  subst ev1
  refine va_sld hx hb hX hbl hbA hS (i_in (by decide) (by decide)) dL_law_1334 ?_
  refine lv_aload_n hx hb dL_law_1335 rfl (lv_at hl 0 rfl) ?_
  refine lv_iload_n hx hb dL_law_1336 rfl (lv_at hl 3 rfl) ?_
  refine lv_iconst (v := 2) hx hb dL_law_1337 (by decide) ?_
  refine lv_iadd hx hb dL_law_1338 ?_
  refine lv_topi (fun v2 ev2 => ?_)
  replace ev2 : v2 = 3 := ev2.trans (by decide)
  subst ev2
  refine va_sld hx hb hX hbl hbA hS (i_in (by decide) (by decide)) dL_law_1339 ?_
  refine lv_aload_n hx hb dL_law_1340 rfl (lv_at hl 0 rfl) ?_
  refine lv_iload_n hx hb dL_law_1341 rfl (lv_at hl 3 rfl) ?_
  refine lv_iconst (v := 3) hx hb dL_law_1342 (by decide) ?_
  refine lv_iadd hx hb dL_law_1343 ?_
  refine lv_topi (fun v3 ev3 => ?_)
  replace ev3 : v3 = 4 := ev3.trans (by decide)
  subst ev3
  refine va_sld hx hb hX hbl hbA hS (i_in (by decide) (by decide)) dL_law_1344 ?_
  refine lv_aload_n hx hb dL_law_1345 rfl (lv_at hl 0 rfl) ?_
  refine lv_iload_n hx hb dL_law_1346 rfl (lv_at hl 3 rfl) ?_
  refine lv_iconst (v := 4) hx hb dL_law_1347 (by decide) ?_
  refine lv_iadd hx hb dL_law_1348 ?_
  refine lv_topi (fun v4 ev4 => ?_)
  replace ev4 : v4 = 5 := ev4.trans (by decide)
  subst ev4
  refine va_sld hx hb hX hbl hbA hS (i_in (by decide) (by decide)) dL_law_1349 ?_
  refine st_i (wr := [((md 64), .inr (11, [.int 0, .long (sd.toInt64), .int 0, .ref (md 3), .ref (md 4), .ref (md 5), .int 0, .ref (md 7), .ref (md 8), .ref (md 9), .ref (md 10), .ref (md 11), .ref (md 12), .ref (md 13), .ref (md 14), .int 0, .ref (md 16), .ref (md 17), .int 0, .ref (md 19), .ref (md 20), .ref (md 21), .ref (md 22), .ref (md 23), .int 0, .int 0, .ref (md 26), .ref (md 27), .ref (md 28), .ref (md 29), .int 0, .ref (md 31), .int 0, .ref (md 33), .ref (md 34), .int 0, .int 0, .int 0, .int 0, .int 0, .int 0, .int 0, .int 0, .int 0, .int 0, .ref (md 45), .ref (md 46), .ref (md 47), .ref (md 48), .ref (md 49), .ref (md 50), .ref (md 51), .int 0, .ref (md 53), .ref (md 54), .ref (md 55), .ref (md 56), .int 0, .ref (md 58), .ref (md 59), .ref (md 60), .int 0, .ref (md 62), .int 0]))]) (va_runV (C := RX10) (As := [.int (xs ((2 : Int32).toNatClampNeg)), .int (xs ((3 : Int32).toNatClampNeg)), .int (xs ((4 : Int32).toNatClampNeg)), .int (xs ((5 : Int32).toNatClampNeg))]) (rest := []) ⟨hx, hb, hml, hown, hts⟩ (ct_X10_opened l D cI cY cJ cQ _ ad (xs ((2 : Int32).toNatClampNeg)) (xs ((3 : Int32).toNatClampNeg)) (xs ((4 : Int32).toNatClampNeg)) (xs ((5 : Int32).toNatClampNeg))) (cwV 4 hts gL_law_X10_opened rfl rfl rfl (by decide +kernel) ⟨Nat.le_of_ble_eq_true rfl, Nat.le_of_ble_eq_true rfl⟩) (cPreV (hP.sub [0, 1] rfl) hK (hD.sub [0, 1] (by decide) rfl) hN (ci := 10) (q0 := 0) rfl rfl) rfl rfl hl.1 rfl (lv_room (Nat.le_of_ble_eq_true rfl)) dL_law_1350 ⟨Nat.le_of_ble_eq_true rfl, Nat.le_of_ble_eq_true rfl⟩) hP hD hS hA [0, 1] [2] rfl rfl (by decide) (by decide) (fun r7 u5 H locs hw6 hP hD hS => ?_)
  replace hP : va_P D vwCl [((md 64), .inr (11, [.int 0, .long (sd.toInt64), .int 0, .ref (md 3), .ref (md 4), .ref (md 5), .int 0, .ref (md 7), .ref (md 8), .ref (md 9), .ref (md 10), .ref (md 11), .ref (md 12), .ref (md 13), .ref (md 14), .int 0, .ref (md 16), .ref (md 17), .int 0, .ref (md 19), .ref (md 20), .ref (md 21), .ref (md 22), .ref (md 23), .int 0, .int 0, .ref (md 26), .ref (md 27), .ref (md 28), .ref (md 29), .int 0, .ref (md 31), .int 0, .ref (md 33), .ref (md 34), .int 0, .int 0, .int 0, .int 0, .int 0, .int 0, .int 0, .int 0, .int 0, .int 0, .ref (md 45), .ref (md 46), .ref (md 47), .ref (md 48), .ref (md 49), .ref (md 50), .ref (md 51), .int 0, .ref (md 53), .ref (md 54), .ref (md 55), .ref (md 56), .int 0, .ref (md 58), .ref (md 59), .ref (md 60), .int 0, .ref (md 62), .int 0]))] H := hP
  replace hD : va_D (fun q : Nat => s.heap.size ≤ q) [((md 64), .inr (11, [.int 0, .long (sd.toInt64), .int 0, .ref (md 3), .ref (md 4), .ref (md 5), .int 0, .ref (md 7), .ref (md 8), .ref (md 9), .ref (md 10), .ref (md 11), .ref (md 12), .ref (md 13), .ref (md 14), .int 0, .ref (md 16), .ref (md 17), .int 0, .ref (md 19), .ref (md 20), .ref (md 21), .ref (md 22), .ref (md 23), .int 0, .int 0, .ref (md 26), .ref (md 27), .ref (md 28), .ref (md 29), .int 0, .ref (md 31), .int 0, .ref (md 33), .ref (md 34), .int 0, .int 0, .int 0, .int 0, .int 0, .int 0, .int 0, .int 0, .int 0, .int 0, .ref (md 45), .ref (md 46), .ref (md 47), .ref (md 48), .ref (md 49), .ref (md 50), .ref (md 51), .int 0, .ref (md 53), .ref (md 54), .ref (md 55), .ref (md 56), .int 0, .ref (md 58), .ref (md 59), .ref (md 60), .int 0, .ref (md 62), .int 0]))] := hD
  refine lv_aload_n hx hb dL_law_1353 rfl (lv_at hl 2 rfl) ?_
  refine lv_aload_n hx hb dL_law_1354 rfl (lv_at hl 0 rfl) ?_
  refine lv_iload_n hx hb dL_law_1355 rfl (lv_at hl 3 rfl) ?_
  refine lv_iconst (v := 1) hx hb dL_law_1356 (by decide) ?_
  refine lv_iadd hx hb dL_law_1357 ?_
  refine lv_topi (fun v8 ev8 => ?_)
  replace ev8 : v8 = 2 := ev8.trans (by decide)
  subst ev8
  refine va_sld hx hb hX hbl hbA hS (i_in (by decide) (by decide)) dL_law_1358 ?_
  refine lv_aload_n hx hb dL_law_1359 rfl (lv_at hl 0 rfl) ?_
  refine lv_iload_n hx hb dL_law_1360 rfl (lv_at hl 3 rfl) ?_
  refine lv_iconst (v := 2) hx hb dL_law_1361 (by decide) ?_
  refine lv_iadd hx hb dL_law_1362 ?_
  refine lv_topi (fun v9 ev9 => ?_)
  replace ev9 : v9 = 3 := ev9.trans (by decide)
  subst ev9
  refine va_sld hx hb hX hbl hbA hS (i_in (by decide) (by decide)) dL_law_1363 ?_
  refine lv_aload_n hx hb dL_law_1364 rfl (lv_at hl 0 rfl) ?_
  refine lv_iload_n hx hb dL_law_1365 rfl (lv_at hl 3 rfl) ?_
  refine lv_iconst (v := 3) hx hb dL_law_1366 (by decide) ?_
  refine lv_iadd hx hb dL_law_1367 ?_
  refine lv_topi (fun v10 ev10 => ?_)
  replace ev10 : v10 = 4 := ev10.trans (by decide)
  subst ev10
  refine va_sld hx hb hX hbl hbA hS (i_in (by decide) (by decide)) dL_law_1368 ?_
  refine lv_aload_n hx hb dL_law_1369 rfl (lv_at hl 0 rfl) ?_
  refine lv_iload_n hx hb dL_law_1370 rfl (lv_at hl 3 rfl) ?_
  refine lv_iconst (v := 4) hx hb dL_law_1371 (by decide) ?_
  refine lv_iadd hx hb dL_law_1372 ?_
  refine lv_topi (fun v11 ev11 => ?_)
  replace ev11 : v11 = 5 := ev11.trans (by decide)
  subst ev11
  refine va_sld hx hb hX hbl hbA hS (i_in (by decide) (by decide)) dL_law_1373 ?_
  refine st_i (wr := []) (va_runV (C := RX11) (As := [.int (xs ((2 : Int32).toNatClampNeg)), .int (xs ((3 : Int32).toNatClampNeg)), .int (xs ((4 : Int32).toNatClampNeg)), .int (xs ((5 : Int32).toNatClampNeg))]) (rest := [.int r7]) ⟨hx, hb, hml, hown, hts⟩ (ct_X11_opened l D cI cY cJ cQ _ md sd (xs ((2 : Int32).toNatClampNeg)) (xs ((3 : Int32).toNatClampNeg)) (xs ((4 : Int32).toNatClampNeg)) (xs ((5 : Int32).toNatClampNeg))) (cwV 4 hts gL_law_X11_opened rfl rfl rfl (by decide +kernel) ⟨Nat.le_of_ble_eq_true rfl, Nat.le_of_ble_eq_true rfl⟩) (cPreV (hP.sub [0] rfl) hK (hD.sub [0] (by decide) rfl) hN (ci := 11) (q0 := 0) rfl rfl) rfl rfl hl.1 rfl (lv_room (Nat.le_of_ble_eq_true rfl)) dL_law_1374 ⟨Nat.le_of_ble_eq_true rfl, Nat.le_of_ble_eq_true rfl⟩) hP hD hS hA [0] [] rfl rfl (by decide) (by decide) (fun r14 u12 H locs hw13 hP hD hS => ?_)
  replace hP : va_P D vwCl [] H := hP
  replace hD : va_D (fun q : Nat => s.heap.size ≤ q) [] := hD
  refine lv_icmp_eq (tgt := 1652) hx hb dL_law_1377 (by decide) (fun _ => ?_) (fun c15 => by exfalso; exact c15 (hw6.trans hw13.symm))
  exact law_tail C0k hS (lv_sub hl [0, 3] rfl)

set_option maxHeartbeats 4000000 in
set_option maxRecDepth 100000 in
theorem law_case_28 {p : Program} {l : Launch} {e : Env} {s : State} {m : MethodId} {below : List Frame} {meth : Method} {c : Code} {D : va_G} {cI cY cJ cQ : ClassId} {b : Nat} {xs : Nat → Int32} {ad rw md : Nat → Nat} {sd : Int32} {H : Heap} {locs : List Loc} {ls : Array Slot} (C0 : lawC p s m meth c b xs D cI cY cJ cQ) (hP : va_P D vwCl [((ad 0), .inr (10, [.ref (ad 1), .ref (ad 2), .ref (ad 3), .ref (ad 4), .ref (ad 5), .ref (ad 6), .ref (ad 7), .ref (ad 8), .ref (ad 9), .ref (ad 10), .ref (ad 11), .int 0, .int 0, .int 0])), ((ad 3), .inr (1, [.ref (ad 31), .ref (ad 32), .ref (ad 33), .int 0, .ref (ad 34), .ref (ad 35)])), ((md 64), .inr (11, [.int 0, .long (sd.toInt64), .int 0, .ref (md 3), .ref (md 4), .ref (md 5), .int 0, .ref (md 7), .ref (md 8), .ref (md 9), .ref (md 10), .ref (md 11), .ref (md 12), .ref (md 13), .ref (md 14), .int 0, .ref (md 16), .ref (md 17), .int 0, .ref (md 19), .ref (md 20), .ref (md 21), .ref (md 22), .ref (md 23), .int 0, .int 0, .ref (md 26), .ref (md 27), .ref (md 28), .ref (md 29), .int 0, .ref (md 31), .int 0, .ref (md 33), .ref (md 34), .int 0, .int 0, .int 0, .int 0, .int 0, .int 0, .int 0, .int 0, .int 0, .int 0, .ref (md 45), .ref (md 46), .ref (md 47), .ref (md 48), .ref (md 49), .ref (md 50), .ref (md 51), .int 0, .ref (md 53), .ref (md 54), .ref (md 55), .ref (md 56), .int 0, .ref (md 58), .ref (md 59), .ref (md 60), .int 0, .ref (md 62), .int 0]))] H) (hD : va_D (fun q : Nat => s.heap.size ≤ q) [((ad 0), .inr (10, [.ref (ad 1), .ref (ad 2), .ref (ad 3), .ref (ad 4), .ref (ad 5), .ref (ad 6), .ref (ad 7), .ref (ad 8), .ref (ad 9), .ref (ad 10), .ref (ad 11), .int 0, .int 0, .int 0])), ((ad 3), .inr (1, [.ref (ad 31), .ref (ad 32), .ref (ad 33), .int 0, .ref (ad 34), .ref (ad 35)])), ((md 64), .inr (11, [.int 0, .long (sd.toInt64), .int 0, .ref (md 3), .ref (md 4), .ref (md 5), .int 0, .ref (md 7), .ref (md 8), .ref (md 9), .ref (md 10), .ref (md 11), .ref (md 12), .ref (md 13), .ref (md 14), .int 0, .ref (md 16), .ref (md 17), .int 0, .ref (md 19), .ref (md 20), .ref (md 21), .ref (md 22), .ref (md 23), .int 0, .int 0, .ref (md 26), .ref (md 27), .ref (md 28), .ref (md 29), .int 0, .ref (md 31), .int 0, .ref (md 33), .ref (md 34), .int 0, .int 0, .int 0, .int 0, .int 0, .int 0, .int 0, .int 0, .int 0, .int 0, .ref (md 45), .ref (md 46), .ref (md 47), .ref (md 48), .ref (md 49), .ref (md 50), .ref (md 51), .int 0, .ref (md 53), .ref (md 54), .ref (md 55), .ref (md 56), .int 0, .ref (md 58), .ref (md 59), .ref (md 60), .int 0, .ref (md 62), .int 0]))]) (hS : va_S (fun q : Nat => s.heap.size ≤ q) s.heap H locs) (hl : lv_has ls 4 [(0, .ref b), (1, .ref (ad 0)), (2, .ref (md 64)), (3, .int 1)]) : W p l e room_1 s m #[Value.ref b] below meth c H locs 107 4890 (lw_Z below #[Value.ref b] s) (F0 m 1382 ls []) := by
  have C0k := C0
  obtain ⟨C1, hK, hN⟩ := C0
  obtain ⟨hx, hb, hr, hml, hown, hts0, hX, hbl, hlocks, hgv⟩ := C1
  have hA : ∀ q : Nat, s.heap.size ≤ q → (fun q : Nat => s.heap.size ≤ q) q := fun _ h => h
  have hbA : ¬ (fun q : Nat => s.heap.size ≤ q) b := Nat.not_le.mpr hbl
  have hts : ∀ w ∈ wsL_law, w.before #[Value.ref b] s = true := fun w h => hts0 w (wsL_law_in w h)
  replace hown : s.vm.findClass RL = some m.cls := hown
  replace hb : c.code = cL_law := hb
  have hLI : (Int32.ofNat 7).toInt = 7 := by decide
  refine lv_aload_n hx hb dL_law_1382 rfl (lv_at hl 1 rfl) ?_
  refine lv_aload_n hx hb dL_law_1383 rfl (lv_at hl 0 rfl) ?_
  refine lv_iload_n hx hb dL_law_1384 rfl (lv_at hl 3 rfl) ?_
  refine lv_iconst (v := 1) hx hb dL_law_1385 (by decide) ?_
  refine lv_iadd hx hb dL_law_1386 ?_
  refine lv_topi (fun v1 ev1 => ?_)
  replace ev1 : v1 = 2 := ev1.trans (by decide)
  subst ev1
  refine va_sld hx hb hX hbl hbA hS (i_in (by decide) (by decide)) dL_law_1387 ?_
  refine st_i (wr := [((md 64), .inr (11, [.int 0, .long (sd.toInt64), .int 0, .ref (md 3), .ref (md 4), .ref (md 5), .int 0, .ref (md 7), .ref (md 8), .ref (md 9), .ref (md 10), .ref (md 11), .ref (md 12), .ref (md 13), .ref (md 14), .int 0, .ref (md 16), .ref (md 17), .int 0, .ref (md 19), .ref (md 20), .ref (md 21), .ref (md 22), .ref (md 23), .int 0, .int 0, .ref (md 26), .ref (md 27), .ref (md 28), .ref (md 29), .int 0, .ref (md 31), .int 0, .ref (md 33), .ref (md 34), .int 0, .int 0, .int 0, .int 0, .int 0, .int 0, .int 0, .int 0, .int 0, .int 0, .ref (md 45), .ref (md 46), .ref (md 47), .ref (md 48), .ref (md 49), .ref (md 50), .ref (md 51), .int 0, .ref (md 53), .ref (md 54), .ref (md 55), .ref (md 56), .int 0, .ref (md 58), .ref (md 59), .ref (md 60), .int 0, .ref (md 62), .int 0]))]) (va_runV (C := RX10) (As := [.int (xs ((2 : Int32).toNatClampNeg))]) (rest := []) ⟨hx, hb, hml, hown, hts⟩ (ct_X10_verdict l D cI cY cJ cQ _ ad (xs ((2 : Int32).toNatClampNeg))) (cwV 1 hts gL_law_X10_verdict rfl rfl rfl (by decide +kernel) ⟨Nat.le_of_ble_eq_true rfl, Nat.le_of_ble_eq_true rfl⟩) (cPreV (hP.sub [0, 1] rfl) hK (hD.sub [0, 1] (by decide) rfl) hN (ci := 10) (q0 := 0) rfl rfl) rfl rfl hl.1 rfl (lv_room (Nat.le_of_ble_eq_true rfl)) dL_law_1388 ⟨Nat.le_of_ble_eq_true rfl, Nat.le_of_ble_eq_true rfl⟩) hP hD hS hA [0, 1] [2] rfl rfl (by decide) (by decide) (fun r4 u2 H locs hw3 hP hD hS => ?_)
  replace hP : va_P D vwCl [((md 64), .inr (11, [.int 0, .long (sd.toInt64), .int 0, .ref (md 3), .ref (md 4), .ref (md 5), .int 0, .ref (md 7), .ref (md 8), .ref (md 9), .ref (md 10), .ref (md 11), .ref (md 12), .ref (md 13), .ref (md 14), .int 0, .ref (md 16), .ref (md 17), .int 0, .ref (md 19), .ref (md 20), .ref (md 21), .ref (md 22), .ref (md 23), .int 0, .int 0, .ref (md 26), .ref (md 27), .ref (md 28), .ref (md 29), .int 0, .ref (md 31), .int 0, .ref (md 33), .ref (md 34), .int 0, .int 0, .int 0, .int 0, .int 0, .int 0, .int 0, .int 0, .int 0, .int 0, .ref (md 45), .ref (md 46), .ref (md 47), .ref (md 48), .ref (md 49), .ref (md 50), .ref (md 51), .int 0, .ref (md 53), .ref (md 54), .ref (md 55), .ref (md 56), .int 0, .ref (md 58), .ref (md 59), .ref (md 60), .int 0, .ref (md 62), .int 0]))] H := hP
  replace hD : va_D (fun q : Nat => s.heap.size ≤ q) [((md 64), .inr (11, [.int 0, .long (sd.toInt64), .int 0, .ref (md 3), .ref (md 4), .ref (md 5), .int 0, .ref (md 7), .ref (md 8), .ref (md 9), .ref (md 10), .ref (md 11), .ref (md 12), .ref (md 13), .ref (md 14), .int 0, .ref (md 16), .ref (md 17), .int 0, .ref (md 19), .ref (md 20), .ref (md 21), .ref (md 22), .ref (md 23), .int 0, .int 0, .ref (md 26), .ref (md 27), .ref (md 28), .ref (md 29), .int 0, .ref (md 31), .int 0, .ref (md 33), .ref (md 34), .int 0, .int 0, .int 0, .int 0, .int 0, .int 0, .int 0, .int 0, .int 0, .int 0, .ref (md 45), .ref (md 46), .ref (md 47), .ref (md 48), .ref (md 49), .ref (md 50), .ref (md 51), .int 0, .ref (md 53), .ref (md 54), .ref (md 55), .ref (md 56), .int 0, .ref (md 58), .ref (md 59), .ref (md 60), .int 0, .ref (md 62), .int 0]))] := hD
  refine lv_aload_n hx hb dL_law_1391 rfl (lv_at hl 2 rfl) ?_
  refine lv_aload_n hx hb dL_law_1392 rfl (lv_at hl 0 rfl) ?_
  refine lv_iload_n hx hb dL_law_1393 rfl (lv_at hl 3 rfl) ?_
  refine lv_iconst (v := 1) hx hb dL_law_1394 (by decide) ?_
  refine lv_iadd hx hb dL_law_1395 ?_
  refine lv_topi (fun v5 ev5 => ?_)
  replace ev5 : v5 = 2 := ev5.trans (by decide)
  subst ev5
  refine va_sld hx hb hX hbl hbA hS (i_in (by decide) (by decide)) dL_law_1396 ?_
  refine st_i (wr := []) (va_runV (C := RX11) (As := [.int (xs ((2 : Int32).toNatClampNeg))]) (rest := [.int r4]) ⟨hx, hb, hml, hown, hts⟩ (ct_X11_verdict l D cI cY cJ cQ _ md sd (xs ((2 : Int32).toNatClampNeg))) (cwV 1 hts gL_law_X11_verdict rfl rfl rfl (by decide +kernel) ⟨Nat.le_of_ble_eq_true rfl, Nat.le_of_ble_eq_true rfl⟩) (cPreV (hP.sub [0] rfl) hK (hD.sub [0] (by decide) rfl) hN (ci := 11) (q0 := 0) rfl rfl) rfl rfl hl.1 rfl (lv_room (Nat.le_of_ble_eq_true rfl)) dL_law_1397 ⟨Nat.le_of_ble_eq_true rfl, Nat.le_of_ble_eq_true rfl⟩) hP hD hS hA [0] [] rfl rfl (by decide) (by decide) (fun r8 u6 H locs hw7 hP hD hS => ?_)
  replace hP : va_P D vwCl [] H := hP
  replace hD : va_D (fun q : Nat => s.heap.size ≤ q) [] := hD
  refine lv_icmp_eq (tgt := 1652) hx hb dL_law_1400 (by decide) (fun _ => ?_) (fun c9 => by exfalso; exact c9 (hw3.trans hw7.symm))
  exact law_tail C0k hS (lv_sub hl [0, 3] rfl)

set_option maxHeartbeats 4000000 in
set_option maxRecDepth 100000 in
theorem law_case_29 {p : Program} {l : Launch} {e : Env} {s : State} {m : MethodId} {below : List Frame} {meth : Method} {c : Code} {D : va_G} {cI cY cJ cQ : ClassId} {b : Nat} {xs : Nat → Int32} {ad rw md : Nat → Nat} {sd : Int32} {H : Heap} {locs : List Loc} {ls : Array Slot} (C0 : lawC p s m meth c b xs D cI cY cJ cQ) (hP : va_P D vwCl [((ad 0), .inr (10, [.ref (ad 1), .ref (ad 2), .ref (ad 3), .ref (ad 4), .ref (ad 5), .ref (ad 6), .ref (ad 7), .ref (ad 8), .ref (ad 9), .ref (ad 10), .ref (ad 11), .int 0, .int 0, .int 0])), ((ad 10), .inr (4, [.ref (ad 63), .ref (ad 64), .ref (ad 65), .int 0])), ((ad 63), .inl (cI, 20, .inl (fun _ => 0))), ((ad 64), .inl (cI, 20, .inl (fun _ => 0))), ((ad 65), .inl (cI, 20, .inl (fun _ => 0))), ((md 64), .inr (11, [.int 0, .long (sd.toInt64), .int 0, .ref (md 3), .ref (md 4), .ref (md 5), .int 0, .ref (md 7), .ref (md 8), .ref (md 9), .ref (md 10), .ref (md 11), .ref (md 12), .ref (md 13), .ref (md 14), .int 0, .ref (md 16), .ref (md 17), .int 0, .ref (md 19), .ref (md 20), .ref (md 21), .ref (md 22), .ref (md 23), .int 0, .int 0, .ref (md 26), .ref (md 27), .ref (md 28), .ref (md 29), .int 0, .ref (md 31), .int 0, .ref (md 33), .ref (md 34), .int 0, .int 0, .int 0, .int 0, .int 0, .int 0, .int 0, .int 0, .int 0, .int 0, .ref (md 45), .ref (md 46), .ref (md 47), .ref (md 48), .ref (md 49), .ref (md 50), .ref (md 51), .int 0, .ref (md 53), .ref (md 54), .ref (md 55), .ref (md 56), .int 0, .ref (md 58), .ref (md 59), .ref (md 60), .int 0, .ref (md 62), .int 0])), ((md 58), .inl (cI, 20, .inl (fun _ => 0))), ((md 59), .inl (cI, 20, .inl (fun _ => 0))), ((md 60), .inl (cI, 20, .inl (fun _ => 0)))] H) (hD : va_D (fun q : Nat => s.heap.size ≤ q) [((ad 0), .inr (10, [.ref (ad 1), .ref (ad 2), .ref (ad 3), .ref (ad 4), .ref (ad 5), .ref (ad 6), .ref (ad 7), .ref (ad 8), .ref (ad 9), .ref (ad 10), .ref (ad 11), .int 0, .int 0, .int 0])), ((ad 10), .inr (4, [.ref (ad 63), .ref (ad 64), .ref (ad 65), .int 0])), ((ad 63), .inl (cI, 20, .inl (fun _ => 0))), ((ad 64), .inl (cI, 20, .inl (fun _ => 0))), ((ad 65), .inl (cI, 20, .inl (fun _ => 0))), ((md 64), .inr (11, [.int 0, .long (sd.toInt64), .int 0, .ref (md 3), .ref (md 4), .ref (md 5), .int 0, .ref (md 7), .ref (md 8), .ref (md 9), .ref (md 10), .ref (md 11), .ref (md 12), .ref (md 13), .ref (md 14), .int 0, .ref (md 16), .ref (md 17), .int 0, .ref (md 19), .ref (md 20), .ref (md 21), .ref (md 22), .ref (md 23), .int 0, .int 0, .ref (md 26), .ref (md 27), .ref (md 28), .ref (md 29), .int 0, .ref (md 31), .int 0, .ref (md 33), .ref (md 34), .int 0, .int 0, .int 0, .int 0, .int 0, .int 0, .int 0, .int 0, .int 0, .int 0, .ref (md 45), .ref (md 46), .ref (md 47), .ref (md 48), .ref (md 49), .ref (md 50), .ref (md 51), .int 0, .ref (md 53), .ref (md 54), .ref (md 55), .ref (md 56), .int 0, .ref (md 58), .ref (md 59), .ref (md 60), .int 0, .ref (md 62), .int 0])), ((md 58), .inl (cI, 20, .inl (fun _ => 0))), ((md 59), .inl (cI, 20, .inl (fun _ => 0))), ((md 60), .inl (cI, 20, .inl (fun _ => 0)))]) (hS : va_S (fun q : Nat => s.heap.size ≤ q) s.heap H locs) (hl : lv_has ls 4 [(0, .ref b), (1, .ref (ad 0)), (2, .ref (md 64)), (3, .int 1)]) : W p l e room_1 s m #[Value.ref b] below meth c H locs 107 4890 (lw_Z below #[Value.ref b] s) (F0 m 1405 ls []) := by
  have C0k := C0
  obtain ⟨C1, hK, hN⟩ := C0
  obtain ⟨hx, hb, hr, hml, hown, hts0, hX, hbl, hlocks, hgv⟩ := C1
  have hA : ∀ q : Nat, s.heap.size ≤ q → (fun q : Nat => s.heap.size ≤ q) q := fun _ h => h
  have hbA : ¬ (fun q : Nat => s.heap.size ≤ q) b := Nat.not_le.mpr hbl
  have hts : ∀ w ∈ wsL_law, w.before #[Value.ref b] s = true := fun w h => hts0 w (wsL_law_in w h)
  replace hown : s.vm.findClass RL = some m.cls := hown
  replace hb : c.code = cL_law := hb
  have hLI : (Int32.ofNat 7).toInt = 7 := by decide
  refine lv_aload_n hx hb dL_law_1405 rfl (lv_at hl 1 rfl) ?_
  refine lv_aload_n hx hb dL_law_1406 rfl (lv_at hl 0 rfl) ?_
  refine lv_iload_n hx hb dL_law_1407 rfl (lv_at hl 3 rfl) ?_
  refine lv_iconst (v := 1) hx hb dL_law_1408 (by decide) ?_
  refine lv_iadd hx hb dL_law_1409 ?_
  refine lv_topi (fun v1 ev1 => ?_)
  replace ev1 : v1 = 2 := ev1.trans (by decide)
  subst ev1
  refine va_sld hx hb hX hbl hbA hS (i_in (by decide) (by decide)) dL_law_1410 ?_
  refine lv_aload_n hx hb dL_law_1411 rfl (lv_at hl 0 rfl) ?_
  refine lv_iload_n hx hb dL_law_1412 rfl (lv_at hl 3 rfl) ?_
  refine lv_iconst (v := 2) hx hb dL_law_1413 (by decide) ?_
  refine lv_iadd hx hb dL_law_1414 ?_
  refine lv_topi (fun v2 ev2 => ?_)
  replace ev2 : v2 = 3 := ev2.trans (by decide)
  subst ev2
  refine va_sld hx hb hX hbl hbA hS (i_in (by decide) (by decide)) dL_law_1415 ?_
  refine lv_aload_n hx hb dL_law_1416 rfl (lv_at hl 0 rfl) ?_
  refine lv_iload_n hx hb dL_law_1417 rfl (lv_at hl 3 rfl) ?_
  refine lv_iconst (v := 3) hx hb dL_law_1418 (by decide) ?_
  refine lv_iadd hx hb dL_law_1419 ?_
  refine lv_topi (fun v3 ev3 => ?_)
  replace ev3 : v3 = 4 := ev3.trans (by decide)
  subst ev3
  refine va_sld hx hb hX hbl hbA hS (i_in (by decide) (by decide)) dL_law_1420 ?_
  refine st_i (wr := [((md 64), .inr (11, [.int 0, .long (sd.toInt64), .int 0, .ref (md 3), .ref (md 4), .ref (md 5), .int 0, .ref (md 7), .ref (md 8), .ref (md 9), .ref (md 10), .ref (md 11), .ref (md 12), .ref (md 13), .ref (md 14), .int 0, .ref (md 16), .ref (md 17), .int 0, .ref (md 19), .ref (md 20), .ref (md 21), .ref (md 22), .ref (md 23), .int 0, .int 0, .ref (md 26), .ref (md 27), .ref (md 28), .ref (md 29), .int 0, .ref (md 31), .int 0, .ref (md 33), .ref (md 34), .int 0, .int 0, .int 0, .int 0, .int 0, .int 0, .int 0, .int 0, .int 0, .int 0, .ref (md 45), .ref (md 46), .ref (md 47), .ref (md 48), .ref (md 49), .ref (md 50), .ref (md 51), .int 0, .ref (md 53), .ref (md 54), .ref (md 55), .ref (md 56), .int 0, .ref (md 58), .ref (md 59), .ref (md 60), .int 0, .ref (md 62), .int 0])), ((md 58), .inl (cI, 20, .inl (fun _ => 0))), ((md 59), .inl (cI, 20, .inl (fun _ => 0))), ((md 60), .inl (cI, 20, .inl (fun _ => 0)))]) (va_runV (C := RX10) (As := [.int (xs ((2 : Int32).toNatClampNeg)), .int (xs ((3 : Int32).toNatClampNeg)), .int (xs ((4 : Int32).toNatClampNeg))]) (rest := []) ⟨hx, hb, hml, hown, hts⟩ (ct_X10_list l D cI cY cJ cQ _ ad (xs ((2 : Int32).toNatClampNeg)) (xs ((3 : Int32).toNatClampNeg)) (xs ((4 : Int32).toNatClampNeg))) (cwV 3 hts gL_law_X10_list rfl rfl rfl (by decide +kernel) ⟨Nat.le_of_ble_eq_true rfl, Nat.le_of_ble_eq_true rfl⟩) (cPreV (hP.sub [0, 1, 2, 3, 4] rfl) hK (hD.sub [0, 1, 2, 3, 4] (by decide) rfl) hN (ci := 10) (q0 := 0) rfl rfl) rfl rfl hl.1 rfl (lv_room (Nat.le_of_ble_eq_true rfl)) dL_law_1421 ⟨Nat.le_of_ble_eq_true rfl, Nat.le_of_ble_eq_true rfl⟩) hP hD hS hA [0, 1, 2, 3, 4] [5, 6, 7, 8] rfl rfl (by decide) (by decide) (fun r6 u4 H locs hw5 hP hD hS => ?_)
  replace hP : va_P D vwCl [((md 64), .inr (11, [.int 0, .long (sd.toInt64), .int 0, .ref (md 3), .ref (md 4), .ref (md 5), .int 0, .ref (md 7), .ref (md 8), .ref (md 9), .ref (md 10), .ref (md 11), .ref (md 12), .ref (md 13), .ref (md 14), .int 0, .ref (md 16), .ref (md 17), .int 0, .ref (md 19), .ref (md 20), .ref (md 21), .ref (md 22), .ref (md 23), .int 0, .int 0, .ref (md 26), .ref (md 27), .ref (md 28), .ref (md 29), .int 0, .ref (md 31), .int 0, .ref (md 33), .ref (md 34), .int 0, .int 0, .int 0, .int 0, .int 0, .int 0, .int 0, .int 0, .int 0, .int 0, .ref (md 45), .ref (md 46), .ref (md 47), .ref (md 48), .ref (md 49), .ref (md 50), .ref (md 51), .int 0, .ref (md 53), .ref (md 54), .ref (md 55), .ref (md 56), .int 0, .ref (md 58), .ref (md 59), .ref (md 60), .int 0, .ref (md 62), .int 0])), ((md 58), .inl (cI, 20, .inl (fun _ => 0))), ((md 59), .inl (cI, 20, .inl (fun _ => 0))), ((md 60), .inl (cI, 20, .inl (fun _ => 0)))] H := hP
  replace hD : va_D (fun q : Nat => s.heap.size ≤ q) [((md 64), .inr (11, [.int 0, .long (sd.toInt64), .int 0, .ref (md 3), .ref (md 4), .ref (md 5), .int 0, .ref (md 7), .ref (md 8), .ref (md 9), .ref (md 10), .ref (md 11), .ref (md 12), .ref (md 13), .ref (md 14), .int 0, .ref (md 16), .ref (md 17), .int 0, .ref (md 19), .ref (md 20), .ref (md 21), .ref (md 22), .ref (md 23), .int 0, .int 0, .ref (md 26), .ref (md 27), .ref (md 28), .ref (md 29), .int 0, .ref (md 31), .int 0, .ref (md 33), .ref (md 34), .int 0, .int 0, .int 0, .int 0, .int 0, .int 0, .int 0, .int 0, .int 0, .int 0, .ref (md 45), .ref (md 46), .ref (md 47), .ref (md 48), .ref (md 49), .ref (md 50), .ref (md 51), .int 0, .ref (md 53), .ref (md 54), .ref (md 55), .ref (md 56), .int 0, .ref (md 58), .ref (md 59), .ref (md 60), .int 0, .ref (md 62), .int 0])), ((md 58), .inl (cI, 20, .inl (fun _ => 0))), ((md 59), .inl (cI, 20, .inl (fun _ => 0))), ((md 60), .inl (cI, 20, .inl (fun _ => 0)))] := hD
  refine lv_aload_n hx hb dL_law_1424 rfl (lv_at hl 2 rfl) ?_
  refine lv_aload_n hx hb dL_law_1425 rfl (lv_at hl 0 rfl) ?_
  refine lv_iload_n hx hb dL_law_1426 rfl (lv_at hl 3 rfl) ?_
  refine lv_iconst (v := 1) hx hb dL_law_1427 (by decide) ?_
  refine lv_iadd hx hb dL_law_1428 ?_
  refine lv_topi (fun v7 ev7 => ?_)
  replace ev7 : v7 = 2 := ev7.trans (by decide)
  subst ev7
  refine va_sld hx hb hX hbl hbA hS (i_in (by decide) (by decide)) dL_law_1429 ?_
  refine lv_aload_n hx hb dL_law_1430 rfl (lv_at hl 0 rfl) ?_
  refine lv_iload_n hx hb dL_law_1431 rfl (lv_at hl 3 rfl) ?_
  refine lv_iconst (v := 2) hx hb dL_law_1432 (by decide) ?_
  refine lv_iadd hx hb dL_law_1433 ?_
  refine lv_topi (fun v8 ev8 => ?_)
  replace ev8 : v8 = 3 := ev8.trans (by decide)
  subst ev8
  refine va_sld hx hb hX hbl hbA hS (i_in (by decide) (by decide)) dL_law_1434 ?_
  refine lv_aload_n hx hb dL_law_1435 rfl (lv_at hl 0 rfl) ?_
  refine lv_iload_n hx hb dL_law_1436 rfl (lv_at hl 3 rfl) ?_
  refine lv_iconst (v := 3) hx hb dL_law_1437 (by decide) ?_
  refine lv_iadd hx hb dL_law_1438 ?_
  refine lv_topi (fun v9 ev9 => ?_)
  replace ev9 : v9 = 4 := ev9.trans (by decide)
  subst ev9
  refine va_sld hx hb hX hbl hbA hS (i_in (by decide) (by decide)) dL_law_1439 ?_
  refine st_i (wr := []) (va_runV (C := RX11) (As := [.int (xs ((2 : Int32).toNatClampNeg)), .int (xs ((3 : Int32).toNatClampNeg)), .int (xs ((4 : Int32).toNatClampNeg))]) (rest := [.int r6]) ⟨hx, hb, hml, hown, hts⟩ (ct_X11_list l D cI cY cJ cQ _ md sd (xs ((2 : Int32).toNatClampNeg)) (xs ((3 : Int32).toNatClampNeg)) (xs ((4 : Int32).toNatClampNeg))) (cwV 3 hts gL_law_X11_list rfl rfl rfl (by decide +kernel) ⟨Nat.le_of_ble_eq_true rfl, Nat.le_of_ble_eq_true rfl⟩) (cPreV (hP.sub [0, 1, 2, 3] rfl) hK (hD.sub [0, 1, 2, 3] (by decide) rfl) hN (ci := 11) (q0 := 0) rfl rfl) rfl rfl hl.1 rfl (lv_room (Nat.le_of_ble_eq_true rfl)) dL_law_1440 ⟨Nat.le_of_ble_eq_true rfl, Nat.le_of_ble_eq_true rfl⟩) hP hD hS hA [0, 1, 2, 3] [] rfl rfl (by decide) (by decide) (fun r12 u10 H locs hw11 hP hD hS => ?_)
  replace hP : va_P D vwCl [] H := hP
  replace hD : va_D (fun q : Nat => s.heap.size ≤ q) [] := hD
  refine lv_icmp_eq (tgt := 1652) hx hb dL_law_1443 (by decide) (fun _ => ?_) (fun c13 => by exfalso; exact c13 (hw5.trans hw11.symm))
  exact law_tail C0k hS (lv_sub hl [0, 3] rfl)
