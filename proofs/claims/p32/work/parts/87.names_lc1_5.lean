set_option maxRecDepth 20000 in
theorem ggL_law_X10_list : GoodIn wsL_law wsX10_list := goodIn_r _ [844, 160, 845, 846, 847, 62, 255, 256, 5, 257, 166, 167, 168, 169, 163, 164, 165, 1170, 1171, 1172, 1173, 1174, 1175, 1176, 1177, 1178, 1179, 1180, 1181, 1182, 1183, 1184, 1185, 1186, 1187, 1188, 1189, 1190, 1191, 1192, 1193, 1194, 1195, 1196, 1197, 1198, 1199, 1200, 1201, 1202, 1203, 1204] (by decide +kernel) (by decide +kernel)
set_option maxRecDepth 20000 in
theorem gL_law_X10_list : GoodIn wsL_law (wsV RL 143 RX10 yX10_list wsX10_list) := goodIn_app (goodIn_of _ (by decide +kernel)) ggL_law_X10_list
set_option maxRecDepth 20000 in
theorem ggL_law_X9_clear : GoodIn wsL_law wsX9_clear := goodIn_r _ [851, 27, 28, 1161, 1162, 1163, 1164, 1165, 1166, 1167, 1168, 1169] (by decide +kernel) (by decide +kernel)
set_option maxRecDepth 20000 in
theorem gL_law_X9_clear : GoodIn wsL_law (wsV RL 144 RX9 yX9_clear wsX9_clear) := goodIn_app (goodIn_of _ (by decide +kernel)) ggL_law_X9_clear
set_option maxRecDepth 20000 in
theorem ggL_law_X10_clear : GoodIn wsL_law wsX10_clear := goodIn_r _ [855, 160, 845, 1170, 1171, 1172, 1173, 1174, 1175, 1176, 1177, 1178, 1179, 1180, 1181, 1182, 1183, 1184, 1185, 1186, 1187, 1188, 1189, 1190, 1191, 1192, 1193, 1194, 1195, 1196, 1197, 1198, 1199, 1200, 1201, 1202, 1203, 1204] (by decide +kernel) (by decide +kernel)
set_option maxRecDepth 20000 in
theorem gL_law_X10_clear : GoodIn wsL_law (wsV RL 148 RX10 yX10_clear wsX10_clear) := goodIn_app (goodIn_of _ (by decide +kernel)) ggL_law_X10_clear
set_option maxRecDepth 20000 in
theorem ggL_law_X9_ways : GoodIn wsL_law wsX9_ways := goodIn_r _ [859, 860, 519, 520, 521, 522, 523, 524, 861, 862, 863, 2, 864, 27, 28, 26, 716, 717, 718, 80, 719, 720, 721, 722, 723, 183, 184, 185, 186, 87, 86, 724, 234, 235, 236, 85, 237, 238, 239, 240, 241, 242, 243, 1161, 1162, 1163, 1164, 1165, 1166, 1167, 1168, 1169, 1215, 1216, 1217, 1218, 1219, 1220, 1221, 1222] (by decide +kernel) (by decide +kernel)
set_option maxRecDepth 20000 in
theorem gL_law_X9_ways : GoodIn wsL_law (wsV RL 149 RX9 yX9_ways wsX9_ways) := goodIn_app (goodIn_of _ (by decide +kernel)) ggL_law_X9_ways
set_option maxRecDepth 20000 in
theorem ggL_law_X10_ways : GoodIn wsL_law wsX10_ways := goodIn_r _ [868, 160, 267, 268, 5, 269, 264, 265, 266, 869, 870, 871, 872, 845, 846, 847, 62, 768, 769, 770, 209, 210, 211, 258, 259, 260, 261, 262, 263, 1170, 1171, 1172, 1173, 1174, 1175, 1176, 1177, 1178, 1179, 1180, 1181, 1182, 1183, 1184, 1185, 1186, 1187, 1188, 1189, 1190, 1191, 1192, 1193, 1194, 1195, 1196, 1197, 1198, 1199, 1200, 1201, 1202, 1203, 1204] (by decide +kernel) (by decide +kernel)
set_option maxRecDepth 20000 in
theorem gL_law_X10_ways : GoodIn wsL_law (wsV RL 152 RX10 yX10_ways wsX10_ways) := goodIn_app (goodIn_of _ (by decide +kernel)) ggL_law_X10_ways
set_option maxRecDepth 20000 in
theorem ggL_law_L_ghost : GoodIn wsL_law wsL_ghost := goodIn_ca (goodIn_r _ [875, 640, 876, 877, 878, 2, 879, 650, 651, 880, 881, 882, 883, 884, 885, 886, 887] (by decide +kernel) (by decide +kernel)) (goodIn_sub (fun _ h => List.mem_append_left _ (List.mem_append_left _ (List.mem_append_left _ (List.mem_append_left _ (List.mem_append_right _ h))))) (by decide +kernel))
set_option maxRecDepth 20000 in
theorem gL_law_L_ghost : GoodIn wsL_law (va_wsS RL 153 yL_ghost wsL_ghost) := goodIn_app (goodIn_of _ (by decide +kernel)) ggL_law_L_ghost
set_option maxRecDepth 20000 in
theorem ggL_law_X10_ghost : GoodIn wsL_law wsX10_ghost := goodIn_r _ [891, 827, 892, 160, 63, 163, 164, 5, 165, 893, 894, 895, 896, 897, 64, 898, 899, 900, 901, 902, 903, 1170, 1171, 1172, 1173, 1174, 1175, 1176, 1177, 1178, 1179, 1180, 1181, 1182, 1183, 1184, 1185, 1186, 1187, 1188, 1189, 1190, 1191, 1192, 1193, 1194, 1195, 1196, 1197, 1198, 1199, 1200, 1201, 1202, 1203, 1204] (by decide +kernel) (by decide +kernel)
set_option maxRecDepth 20000 in
theorem gL_law_X10_ghost : GoodIn wsL_law (wsV RL 156 RX10 yX10_ghost wsX10_ghost) := goodIn_app (goodIn_of _ (by decide +kernel)) ggL_law_X10_ghost
set_option maxRecDepth 20000 in
theorem ggL_law_X9_haunts : GoodIn wsL_law wsX9_haunts := goodIn_r _ [907, 908, 909, 910, 2, 911, 886, 912, 913, 626, 914, 887, 880, 881, 882, 75, 76, 77, 78, 15, 14, 79, 80, 81, 82, 83, 84, 12, 13, 6, 85, 86, 87, 88, 89, 90, 91, 92, 93, 94, 95, 96, 97, 98, 99, 100, 101, 102, 103, 104, 105, 106, 107, 108, 109, 110, 111, 112, 113, 114, 115, 1161, 1162, 1163, 1164, 1165, 1166, 1167, 1168, 1169, 1215, 1216, 1217, 1218, 1219, 1220, 1221, 1222] (by decide +kernel) (by decide +kernel)
set_option maxRecDepth 20000 in
theorem gL_law_X9_haunts : GoodIn wsL_law (wsV RL 157 RX9 yX9_haunts wsX9_haunts) := goodIn_app (goodIn_of _ (by decide +kernel)) ggL_law_X9_haunts
set_option maxRecDepth 20000 in
theorem ggL_law_X10_haunts : GoodIn wsL_law wsX10_haunts := goodIn_r _ [918, 160, 827, 163, 164, 5, 165, 166, 167, 168, 169, 919, 920, 921, 922, 898, 899, 900, 1170, 1171, 1172, 1173, 1174, 1175, 1176, 1177, 1178, 1179, 1180, 1181, 1182, 1183, 1184, 1185, 1186, 1187, 1188, 1189, 1190, 1191, 1192, 1193, 1194, 1195, 1196, 1197, 1198, 1199, 1200, 1201, 1202, 1203, 1204] (by decide +kernel) (by decide +kernel)
set_option maxRecDepth 20000 in
theorem gL_law_X10_haunts : GoodIn wsL_law (wsV RL 160 RX10 yX10_haunts wsX10_haunts) := goodIn_app (goodIn_of _ (by decide +kernel)) ggL_law_X10_haunts
set_option maxRecDepth 20000 in
theorem ggL_law_X9_ghosts : GoodIn wsL_law wsX9_ghosts := goodIn_r _ [926, 908, 909, 910, 2, 911, 886, 912, 913, 626, 914, 887, 880, 881, 882, 75, 76, 77, 78, 15, 14, 79, 80, 81, 82, 83, 84, 12, 13, 6, 85, 86, 87, 88, 89, 90, 91, 92, 93, 94, 95, 96, 97, 98, 99, 100, 101, 102, 103, 104, 105, 106, 107, 108, 109, 110, 111, 112, 113, 114, 115, 1161, 1162, 1163, 1164, 1165, 1166, 1167, 1168, 1169, 1215, 1216, 1217, 1218, 1219, 1220, 1221, 1222] (by decide +kernel) (by decide +kernel)
set_option maxRecDepth 20000 in
theorem gL_law_X9_ghosts : GoodIn wsL_law (wsV RL 161 RX9 yX9_ghosts wsX9_ghosts) := goodIn_app (goodIn_of _ (by decide +kernel)) ggL_law_X9_ghosts
set_option maxRecDepth 20000 in
theorem ggL_law_X10_ghosts : GoodIn wsL_law wsX10_ghosts := goodIn_r _ [930, 160, 827, 163, 164, 5, 165, 166, 167, 168, 169, 919, 920, 921, 922, 898, 899, 900, 1170, 1171, 1172, 1173, 1174, 1175, 1176, 1177, 1178, 1179, 1180, 1181, 1182, 1183, 1184, 1185, 1186, 1187, 1188, 1189, 1190, 1191, 1192, 1193, 1194, 1195, 1196, 1197, 1198, 1199, 1200, 1201, 1202, 1203, 1204] (by decide +kernel) (by decide +kernel)
set_option maxRecDepth 20000 in
theorem gL_law_X10_ghosts : GoodIn wsL_law (wsV RL 164 RX10 yX10_ghosts wsX10_ghosts) := goodIn_app (goodIn_of _ (by decide +kernel)) ggL_law_X10_ghosts
