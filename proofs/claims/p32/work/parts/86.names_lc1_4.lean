set_option maxRecDepth 20000 in
theorem ggL_law_X9_far : GoodIn wsL_law wsX9_far := goodIn_r _ [712, 25, 713, 714, 715, 75, 76, 77, 2, 78, 15, 14, 79, 80, 81, 82, 83, 84, 12, 13, 6, 85, 86, 87, 88, 89, 90, 91, 92, 93, 94, 95, 96, 97, 98, 99, 100, 101, 102, 103, 104, 105, 106, 107, 108, 109, 110, 111, 112, 113, 114, 115, 223, 224, 225, 226, 716, 717, 718, 719, 720, 721, 722, 723, 183, 184, 185, 186, 724, 234, 235, 236, 237, 238, 239, 240, 241, 242, 243, 725, 726, 727, 728, 729, 730, 37, 731, 732, 733, 734, 735, 736, 737, 738, 739, 740, 741, 742, 743, 744, 745, 746, 747, 748, 749, 750, 751, 752, 753, 754, 755, 756, 757, 758, 689, 690, 691, 759, 760, 761, 762, 1161, 1162, 1163, 1164, 1165, 1166, 1167, 1168, 1169, 1244, 1245, 1246, 1215, 1216, 1217, 1218, 1219, 1220, 1221, 1222] (by decide +kernel) (by decide +kernel)
set_option maxRecDepth 20000 in
theorem gL_law_X9_far : GoodIn wsL_law (wsV RL 117 RX9 yX9_far wsX9_far) := goodIn_app (goodIn_of _ (by decide +kernel)) ggL_law_X9_far
set_option maxRecDepth 20000 in
theorem ggL_law_X10_far : GoodIn wsL_law wsX10_far := goodIn_r _ [766, 160, 60, 61, 58, 59, 767, 255, 256, 5, 257, 166, 167, 168, 169, 163, 164, 165, 768, 769, 770, 209, 210, 211, 258, 259, 260, 261, 262, 263, 264, 265, 266, 771, 772, 773, 774, 775, 776, 777, 778, 779, 780, 781, 782, 783, 1170, 1171, 1172, 1173, 1174, 1175, 1176, 1177, 1178, 1179, 1180, 1181, 1182, 1183, 1184, 1185, 1186, 1187, 1188, 1189, 1190, 1191, 1192, 1193, 1194, 1195, 1196, 1197, 1198, 1199, 1200, 1201, 1202, 1203, 1204] (by decide +kernel) (by decide +kernel)
set_option maxRecDepth 20000 in
theorem gL_law_X10_far : GoodIn wsL_law (wsV RL 121 RX10 yX10_far wsX10_far) := goodIn_app (goodIn_of _ (by decide +kernel)) ggL_law_X10_far
set_option maxRecDepth 20000 in
theorem ggL_law_X9_joined : GoodIn wsL_law wsX9_joined := goodIn_r _ [787, 75, 76, 77, 2, 78, 15, 14, 79, 80, 81, 82, 83, 84, 12, 13, 6, 85, 86, 87, 88, 89, 90, 91, 92, 93, 94, 95, 96, 97, 98, 99, 100, 101, 102, 103, 104, 105, 106, 107, 108, 109, 110, 111, 112, 113, 114, 115, 223, 224, 225, 226, 788, 412, 413, 414, 415, 1161, 1162, 1163, 1164, 1165, 1166, 1167, 1168, 1169, 1215, 1216, 1217, 1218, 1219, 1220, 1221, 1222] (by decide +kernel) (by decide +kernel)
set_option maxRecDepth 20000 in
theorem gL_law_X9_joined : GoodIn wsL_law (wsV RL 122 RX9 yX9_joined wsX9_joined) := goodIn_app (goodIn_of _ (by decide +kernel)) ggL_law_X9_joined
set_option maxRecDepth 20000 in
theorem ggL_law_X10_joined : GoodIn wsL_law wsX10_joined := goodIn_r _ [792, 160, 255, 256, 5, 257, 166, 167, 168, 169, 163, 164, 165, 450, 451, 452, 453, 55, 264, 265, 266, 1170, 1171, 1172, 1173, 1174, 1175, 1176, 1177, 1178, 1179, 1180, 1181, 1182, 1183, 1184, 1185, 1186, 1187, 1188, 1189, 1190, 1191, 1192, 1193, 1194, 1195, 1196, 1197, 1198, 1199, 1200, 1201, 1202, 1203, 1204] (by decide +kernel) (by decide +kernel)
set_option maxRecDepth 20000 in
theorem gL_law_X10_joined : GoodIn wsL_law (wsV RL 125 RX10 yX10_joined wsX10_joined) := goodIn_app (goodIn_of _ (by decide +kernel)) ggL_law_X10_joined
set_option maxRecDepth 20000 in
theorem ggL_law_X9_even : GoodIn wsL_law wsX9_even := goodIn_r _ [796, 75, 76, 77, 2, 78, 15, 14, 79, 80, 81, 82, 83, 84, 12, 13, 6, 85, 86, 87, 88, 89, 90, 91, 92, 93, 94, 95, 96, 97, 98, 99, 100, 101, 102, 103, 104, 105, 106, 107, 108, 109, 110, 111, 112, 113, 114, 115, 223, 224, 225, 226, 797, 425, 426, 427, 420, 421, 422, 423, 798, 417, 418, 419, 1161, 1162, 1163, 1164, 1165, 1166, 1167, 1168, 1169, 1215, 1216, 1217, 1218, 1219, 1220, 1221, 1222] (by decide +kernel) (by decide +kernel)
set_option maxRecDepth 20000 in
theorem gL_law_X9_even : GoodIn wsL_law (wsV RL 126 RX9 yX9_even wsX9_even) := goodIn_app (goodIn_of _ (by decide +kernel)) ggL_law_X9_even
set_option maxRecDepth 20000 in
theorem ggL_law_X10_even : GoodIn wsL_law wsX10_even := goodIn_r _ [802, 160, 255, 256, 5, 257, 166, 167, 168, 169, 163, 164, 165, 454, 455, 456, 264, 265, 266, 1170, 1171, 1172, 1173, 1174, 1175, 1176, 1177, 1178, 1179, 1180, 1181, 1182, 1183, 1184, 1185, 1186, 1187, 1188, 1189, 1190, 1191, 1192, 1193, 1194, 1195, 1196, 1197, 1198, 1199, 1200, 1201, 1202, 1203, 1204] (by decide +kernel) (by decide +kernel)
set_option maxRecDepth 20000 in
theorem gL_law_X10_even : GoodIn wsL_law (wsV RL 130 RX10 yX10_even wsX10_even) := goodIn_app (goodIn_of _ (by decide +kernel)) ggL_law_X10_even
set_option maxRecDepth 20000 in
theorem ggL_law_X9_turned : GoodIn wsL_law wsX9_turned := goodIn_r _ [806, 565, 75, 76, 77, 2, 78, 15, 14, 79, 80, 81, 82, 83, 84, 12, 13, 6, 85, 86, 87, 88, 89, 90, 91, 92, 93, 94, 95, 96, 97, 98, 99, 100, 101, 102, 103, 104, 105, 106, 107, 108, 109, 110, 111, 112, 113, 114, 115, 223, 224, 225, 226, 807, 808, 809, 810, 415, 811, 812, 813, 814, 1161, 1162, 1163, 1164, 1165, 1166, 1167, 1168, 1169, 1215, 1216, 1217, 1218, 1219, 1220, 1221, 1222] (by decide +kernel) (by decide +kernel)
set_option maxRecDepth 20000 in
theorem gL_law_X9_turned : GoodIn wsL_law (wsV RL 131 RX9 yX9_turned wsX9_turned) := goodIn_app (goodIn_of _ (by decide +kernel)) ggL_law_X9_turned
set_option maxRecDepth 20000 in
theorem ggL_law_X10_turned : GoodIn wsL_law wsX10_turned := goodIn_r _ [818, 160, 161, 576, 255, 256, 5, 257, 166, 167, 168, 169, 163, 164, 165, 264, 265, 266, 1170, 1171, 1172, 1173, 1174, 1175, 1176, 1177, 1178, 1179, 1180, 1181, 1182, 1183, 1184, 1185, 1186, 1187, 1188, 1189, 1190, 1191, 1192, 1193, 1194, 1195, 1196, 1197, 1198, 1199, 1200, 1201, 1202, 1203, 1204] (by decide +kernel) (by decide +kernel)
set_option maxRecDepth 20000 in
theorem gL_law_X10_turned : GoodIn wsL_law (wsV RL 134 RX10 yX10_turned wsX10_turned) := goodIn_app (goodIn_of _ (by decide +kernel)) ggL_law_X10_turned
set_option maxRecDepth 20000 in
theorem ggL_law_X9_parts : GoodIn wsL_law wsX9_parts := goodIn_r _ [822, 75, 76, 77, 2, 78, 15, 14, 79, 80, 81, 82, 83, 84, 12, 13, 6, 85, 86, 87, 88, 89, 90, 91, 92, 93, 94, 95, 96, 97, 98, 99, 100, 101, 102, 103, 104, 105, 106, 107, 108, 109, 110, 111, 112, 113, 114, 115, 223, 224, 225, 226, 716, 717, 718, 719, 720, 721, 722, 723, 183, 184, 185, 186, 724, 234, 235, 236, 237, 238, 239, 240, 241, 242, 243, 1161, 1162, 1163, 1164, 1165, 1166, 1167, 1168, 1169, 1215, 1216, 1217, 1218, 1219, 1220, 1221, 1222] (by decide +kernel) (by decide +kernel)
set_option maxRecDepth 20000 in
theorem gL_law_X9_parts : GoodIn wsL_law (wsV RL 135 RX9 yX9_parts wsX9_parts) := goodIn_app (goodIn_of _ (by decide +kernel)) ggL_law_X9_parts
set_option maxRecDepth 20000 in
theorem ggL_law_X10_parts : GoodIn wsL_law wsX10_parts := goodIn_r _ [826, 160, 827, 255, 256, 5, 257, 166, 167, 168, 169, 163, 164, 165, 768, 769, 770, 209, 210, 211, 258, 259, 260, 261, 262, 263, 264, 265, 266, 1170, 1171, 1172, 1173, 1174, 1175, 1176, 1177, 1178, 1179, 1180, 1181, 1182, 1183, 1184, 1185, 1186, 1187, 1188, 1189, 1190, 1191, 1192, 1193, 1194, 1195, 1196, 1197, 1198, 1199, 1200, 1201, 1202, 1203, 1204] (by decide +kernel) (by decide +kernel)
set_option maxRecDepth 20000 in
theorem gL_law_X10_parts : GoodIn wsL_law (wsV RL 139 RX10 yX10_parts wsX10_parts) := goodIn_app (goodIn_of _ (by decide +kernel)) ggL_law_X10_parts
set_option maxRecDepth 20000 in
theorem ggL_law_X9_list : GoodIn wsL_law wsX9_list := goodIn_r _ [831, 27, 28, 26, 75, 76, 77, 2, 78, 15, 14, 79, 80, 81, 82, 83, 84, 12, 13, 6, 85, 86, 87, 88, 89, 90, 91, 92, 93, 94, 95, 96, 97, 98, 99, 100, 101, 102, 103, 104, 105, 106, 107, 108, 109, 110, 111, 112, 113, 114, 115, 223, 224, 225, 226, 832, 833, 834, 835, 599, 836, 837, 838, 839, 840, 1161, 1162, 1163, 1164, 1165, 1166, 1167, 1168, 1169, 1215, 1216, 1217, 1218, 1219, 1220, 1221, 1222] (by decide +kernel) (by decide +kernel)
set_option maxRecDepth 20000 in
theorem gL_law_X9_list : GoodIn wsL_law (wsV RL 140 RX9 yX9_list wsX9_list) := goodIn_app (goodIn_of _ (by decide +kernel)) ggL_law_X9_list
