set_option maxRecDepth 20000 in
theorem ggL_law_X10_switches : GoodIn wsL_law wsX10_switches := goodIn_r _ [695, 160, 255, 256, 5, 257, 166, 167, 168, 169, 163, 164, 165, 696, 697, 698, 699, 700, 264, 265, 266, 1170, 1171, 1172, 1173, 1174, 1175, 1176, 1177, 1178, 1179, 1180, 1181, 1182, 1183, 1184, 1185, 1186, 1187, 1188, 1189, 1190, 1191, 1192, 1193, 1194, 1195, 1196, 1197, 1198, 1199, 1200, 1201, 1202, 1203, 1204] (by decide +kernel) (by decide +kernel)
set_option maxRecDepth 20000 in
theorem gL_law_X10_switches : GoodIn wsL_law (wsV RL 111 RX10 yX10_switches wsX10_switches) := goodIn_app (goodIn_of _ (by decide +kernel)) ggL_law_X10_switches
set_option maxRecDepth 20000 in
theorem ggL_law_X9_switched : GoodIn wsL_law wsX9_switched := goodIn_r _ [704, 565, 687, 567, 75, 76, 77, 2, 78, 15, 14, 79, 80, 81, 82, 83, 84, 12, 13, 6, 85, 86, 87, 88, 89, 90, 91, 92, 93, 94, 95, 96, 97, 98, 99, 100, 101, 102, 103, 104, 105, 106, 107, 108, 109, 110, 111, 112, 113, 114, 115, 223, 224, 225, 226, 688, 689, 690, 691, 1215, 1216, 1217, 1218, 1219, 1220, 1221, 1222, 1161, 1162, 1163, 1164, 1165, 1166, 1167, 1168, 1169] (by decide +kernel) (by decide +kernel)
set_option maxRecDepth 20000 in
theorem gL_law_X9_switched : GoodIn wsL_law (wsV RL 112 RX9 yX9_switched wsX9_switched) := goodIn_app (goodIn_of _ (by decide +kernel)) ggL_law_X9_switched
set_option maxRecDepth 20000 in
theorem ggL_law_X10_switched : GoodIn wsL_law wsX10_switched := goodIn_r _ [708, 160, 576, 700, 578, 255, 256, 5, 257, 166, 167, 168, 169, 163, 164, 165, 696, 697, 698, 699, 264, 265, 266, 1170, 1171, 1172, 1173, 1174, 1175, 1176, 1177, 1178, 1179, 1180, 1181, 1182, 1183, 1184, 1185, 1186, 1187, 1188, 1189, 1190, 1191, 1192, 1193, 1194, 1195, 1196, 1197, 1198, 1199, 1200, 1201, 1202, 1203, 1204] (by decide +kernel) (by decide +kernel)
set_option maxRecDepth 20000 in
theorem gL_law_X10_switched : GoodIn wsL_law (wsV RL 116 RX10 yX10_switched wsX10_switched) := goodIn_app (goodIn_of _ (by decide +kernel)) ggL_law_X10_switched
