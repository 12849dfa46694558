set_option maxRecDepth 20000 in
theorem ggL_law_X9_job : GoodIn wsL_law wsX9_job := goodIn_r _ [74, 18, 17, 75, 76, 77, 2, 78, 15, 14, 79, 80, 81, 82, 83, 84, 12, 13, 6, 85, 86, 87, 88, 89, 90, 91, 92, 93, 94, 95, 96, 97, 98, 99, 100, 101, 102, 103, 104, 105, 106, 107, 108, 109, 110, 111, 112, 113, 114, 115, 116, 117, 118, 119, 120, 121, 122, 123, 124, 125, 126, 127, 16, 128, 129, 130, 131, 132, 133, 134, 135, 37, 136, 137, 138, 139, 140, 141, 142, 143, 144, 145, 146, 147, 148, 149, 150, 151, 152, 153, 154, 155, 1161, 1162, 1163, 1164, 1165, 1166, 1167, 1168, 1169, 1215, 1216, 1217, 1218, 1219, 1220, 1221, 1222, 1223, 1224, 1225, 1226, 1227, 1228, 1229, 1230, 1231, 1232, 1233, 1234, 1235, 1236, 1237, 1238, 1239, 1240, 1241, 1242, 1243] (by decide +kernel) (by decide +kernel)
set_option maxRecDepth 20000 in
theorem gL_law_X9_job : GoodIn wsL_law (wsV RL 36 RX9 yX9_job wsX9_job) := goodIn_app (goodIn_of _ (by decide +kernel)) ggL_law_X9_job
set_option maxRecDepth 20000 in
theorem ggL_law_X10_job : GoodIn wsL_law wsX10_job := goodIn_r _ [159, 160, 161, 162, 47, 48, 49, 52, 53, 163, 164, 5, 165, 166, 167, 168, 169, 1170, 1171, 1172, 1173, 1174, 1175, 1176, 1177, 1178, 1179, 1180, 1181, 1182, 1183, 1184, 1185, 1186, 1187, 1188, 1189, 1190, 1191, 1192, 1193, 1194, 1195, 1196, 1197, 1198, 1199, 1200, 1201, 1202, 1203, 1204] (by decide +kernel) (by decide +kernel)
set_option maxRecDepth 20000 in
theorem gL_law_X10_job : GoodIn wsL_law (wsV RL 39 RX10 yX10_job wsX10_job) := goodIn_app (goodIn_of _ (by decide +kernel)) ggL_law_X10_job
set_option maxRecDepth 20000 in
theorem ggL_law_X9_sum : GoodIn wsL_law wsX9_sum := goodIn_r _ [173, 174, 175, 176, 177, 2, 178, 18, 17, 179, 180, 181, 80, 182, 183, 184, 185, 186, 87, 86, 187, 188, 189, 190, 129, 191, 140, 136, 137, 192, 193, 194, 195, 196, 1228, 1229, 1230, 1231, 1232, 1239, 1240, 1241, 1242, 1243, 1223, 1224, 1225, 1226, 1227, 1233, 1234, 1235, 1236, 1237, 1238, 1161, 1162, 1163, 1164, 1165, 1166, 1167, 1168, 1169, 1215, 1216, 1217, 1218, 1219, 1220, 1221, 1222] (by decide +kernel) (by decide +kernel)
set_option maxRecDepth 20000 in
theorem gL_law_X9_sum : GoodIn wsL_law (wsV RL 40 RX9 yX9_sum wsX9_sum) := goodIn_app (goodIn_of _ (by decide +kernel)) ggL_law_X9_sum
set_option maxRecDepth 20000 in
theorem ggL_law_X10_sum : GoodIn wsL_law wsX10_sum := goodIn_r _ [200, 160, 169, 50, 201, 202, 203, 5, 204, 161, 48, 49, 205, 206, 207, 208, 162, 163, 164, 165, 209, 210, 211, 212, 213, 214, 215, 52, 1170, 1171, 1172, 1173, 1174, 1175, 1176, 1177, 1178, 1179, 1180, 1181, 1182, 1183, 1184, 1185, 1186, 1187, 1188, 1189, 1190, 1191, 1192, 1193, 1194, 1195, 1196, 1197, 1198, 1199, 1200, 1201, 1202, 1203, 1204] (by decide +kernel) (by decide +kernel)
set_option maxRecDepth 20000 in
theorem gL_law_X10_sum : GoodIn wsL_law (wsV RL 44 RX10 yX10_sum wsX10_sum) := goodIn_app (goodIn_of _ (by decide +kernel)) ggL_law_X10_sum
set_option maxRecDepth 20000 in
theorem ggL_law_X9_cast : GoodIn wsL_law wsX9_cast := goodIn_r _ [219, 174, 175, 176, 177, 2, 178, 18, 17, 220, 221, 222, 223, 224, 225, 80, 226, 88, 227, 228, 229, 230, 129, 231, 140, 232, 184, 185, 186, 87, 86, 233, 234, 235, 236, 85, 237, 238, 239, 240, 241, 242, 243, 244, 188, 189, 190, 191, 136, 137, 192, 180, 181, 182, 183, 245, 194, 195, 196, 246, 247, 248, 249, 250, 1228, 1229, 1230, 1231, 1232, 1239, 1240, 1241, 1242, 1243, 1223, 1224, 1225, 1226, 1227, 1233, 1234, 1235, 1236, 1237, 1238, 1161, 1162, 1163, 1164, 1165, 1166, 1167, 1168, 1169, 1215, 1216, 1217, 1218, 1219, 1220, 1221, 1222] (by decide +kernel) (by decide +kernel)
set_option maxRecDepth 20000 in
theorem gL_law_X9_cast : GoodIn wsL_law (wsV RL 47 RX9 yX9_cast wsX9_cast) := goodIn_app (goodIn_of _ (by decide +kernel)) ggL_law_X9_cast
set_option maxRecDepth 20000 in
theorem ggL_law_X10_cast : GoodIn wsL_law wsX10_cast := goodIn_r _ [254, 160, 48, 49, 50, 201, 202, 203, 5, 204, 161, 205, 206, 207, 208, 162, 163, 164, 165, 209, 210, 211, 255, 256, 257, 166, 167, 168, 169, 212, 213, 214, 215, 52, 258, 259, 260, 261, 262, 263, 264, 265, 266, 267, 268, 269, 1170, 1171, 1172, 1173, 1174, 1175, 1176, 1177, 1178, 1179, 1180, 1181, 1182, 1183, 1184, 1185, 1186, 1187, 1188, 1189, 1190, 1191, 1192, 1193, 1194, 1195, 1196, 1197, 1198, 1199, 1200, 1201, 1202, 1203, 1204] (by decide +kernel) (by decide +kernel)
set_option maxRecDepth 20000 in
theorem gL_law_X10_cast : GoodIn wsL_law (wsV RL 51 RX10 yX10_cast wsX10_cast) := goodIn_app (goodIn_of _ (by decide +kernel)) ggL_law_X10_cast
set_option maxRecDepth 20000 in
theorem ggL_law_X9_untell : GoodIn wsL_law wsX9_untell := goodIn_r _ [273, 175, 176, 177, 2, 178, 18, 17, 220, 221, 222, 274, 275, 276, 277, 129, 278, 137, 279, 280, 281, 282, 283, 284, 285, 286, 287, 140, 232, 184, 185, 80, 186, 87, 86, 244, 188, 189, 190, 191, 136, 192, 180, 181, 182, 183, 245, 194, 195, 196, 288, 289, 290, 291, 1161, 1162, 1163, 1164, 1165, 1166, 1167, 1168, 1169, 1228, 1229, 1230, 1231, 1232, 1239, 1240, 1241, 1242, 1243, 1223, 1224, 1225, 1226, 1227, 1233, 1234, 1235, 1236, 1237, 1238, 1215, 1216, 1217, 1218, 1219, 1220, 1221, 1222] (by decide +kernel) (by decide +kernel)
set_option maxRecDepth 20000 in
theorem gL_law_X9_untell : GoodIn wsL_law (wsV RL 52 RX9 yX9_untell wsX9_untell) := goodIn_app (goodIn_of _ (by decide +kernel)) ggL_law_X9_untell
set_option maxRecDepth 20000 in
theorem ggL_law_X10_untell : GoodIn wsL_law wsX10_untell := goodIn_r _ [295, 160, 296, 161, 52, 205, 206, 207, 5, 208, 162, 163, 164, 165, 1170, 1171, 1172, 1173, 1174, 1175, 1176, 1177, 1178, 1179, 1180, 1181, 1182, 1183, 1184, 1185, 1186, 1187, 1188, 1189, 1190, 1191, 1192, 1193, 1194, 1195, 1196, 1197, 1198, 1199, 1200, 1201, 1202, 1203, 1204] (by decide +kernel) (by decide +kernel)
set_option maxRecDepth 20000 in
theorem gL_law_X10_untell : GoodIn wsL_law (wsV RL 56 RX10 yX10_untell wsX10_untell) := goodIn_app (goodIn_of _ (by decide +kernel)) ggL_law_X10_untell
set_option maxRecDepth 20000 in
theorem ggL_law_X9_hold : GoodIn wsL_law wsX9_hold := goodIn_r _ [300, 174, 175, 176, 177, 2, 178, 18, 17, 301, 302, 303, 80, 304, 88, 305, 306, 307, 308, 129, 309, 138, 139, 310, 311, 312, 313, 314, 315, 316, 317, 318, 319, 320, 321, 322, 323, 1228, 1229, 1230, 1231, 1232, 1239, 1240, 1241, 1242, 1243, 1223, 1224, 1225, 1226, 1227, 1233, 1234, 1235, 1236, 1237, 1238, 1161, 1162, 1163, 1164, 1165, 1166, 1167, 1168, 1169, 1215, 1216, 1217, 1218, 1219, 1220, 1221, 1222] (by decide +kernel) (by decide +kernel)
set_option maxRecDepth 20000 in
theorem gL_law_X9_hold : GoodIn wsL_law (wsV RL 57 RX9 yX9_hold wsX9_hold) := goodIn_app (goodIn_of _ (by decide +kernel)) ggL_law_X9_hold
set_option maxRecDepth 20000 in
theorem ggL_law_X10_hold : GoodIn wsL_law wsX10_hold := goodIn_r _ [327, 160, 296, 53, 328, 329, 330, 5, 331, 48, 49, 205, 206, 207, 208, 162, 163, 164, 165, 1170, 1171, 1172, 1173, 1174, 1175, 1176, 1177, 1178, 1179, 1180, 1181, 1182, 1183, 1184, 1185, 1186, 1187, 1188, 1189, 1190, 1191, 1192, 1193, 1194, 1195, 1196, 1197, 1198, 1199, 1200, 1201, 1202, 1203, 1204] (by decide +kernel) (by decide +kernel)
set_option maxRecDepth 20000 in
theorem gL_law_X10_hold : GoodIn wsL_law (wsV RL 60 RX10 yX10_hold wsX10_hold) := goodIn_app (goodIn_of _ (by decide +kernel)) ggL_law_X10_hold
set_option maxRecDepth 20000 in
theorem ggL_law_X9_mark : GoodIn wsL_law wsX9_mark := goodIn_r _ [335, 174, 336, 175, 176, 177, 2, 178, 18, 17, 301, 302, 303, 80, 304, 88, 337, 338, 339, 127, 340, 153, 1228, 1229, 1230, 1231, 1232, 1239, 1240, 1241, 1242, 1243, 1223, 1224, 1225, 1226, 1227, 1233, 1234, 1235, 1236, 1237, 1238, 1161, 1162, 1163, 1164, 1165, 1166, 1167, 1168, 1169, 1215, 1216, 1217, 1218, 1219, 1220, 1221, 1222] (by decide +kernel) (by decide +kernel)
set_option maxRecDepth 20000 in
theorem gL_law_X9_mark : GoodIn wsL_law (wsV RL 61 RX9 yX9_mark wsX9_mark) := goodIn_app (goodIn_of _ (by decide +kernel)) ggL_law_X9_mark
