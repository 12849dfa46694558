set_option maxRecDepth 20000 in
theorem ggL_law_X9_keep : GoodIn wsL_law wsX9_keep := goodIn_r _ [934, 20, 935, 936, 2, 937, 175, 176, 177, 178, 18, 17, 938, 939, 940, 174, 941, 942, 943, 944, 945, 124, 946, 947, 123, 402, 403, 948, 146, 147, 148, 131, 121, 132, 133, 134, 129, 135, 37, 136, 137, 138, 139, 140, 141, 142, 143, 144, 12, 13, 949, 950, 951, 952, 953, 954, 955, 956, 957, 958, 959, 960, 961, 962, 128, 963, 964, 965, 966, 967, 968, 969, 970, 971, 972, 973, 974, 120, 409, 410, 975, 976, 977, 978, 979, 980, 981, 127, 982, 983, 126, 984, 985, 153, 986, 987, 150, 151, 152, 154, 988, 989, 990, 223, 224, 225, 80, 226, 88, 991, 992, 993, 994, 995, 996, 997, 998, 999, 1000, 1001, 6, 1002, 1003, 1004, 1005, 1006, 1007, 1008, 1009, 1010, 1011, 1012, 1013, 836, 599, 352, 353, 354, 355, 356, 357, 358, 359, 360, 1161, 1162, 1163, 1164, 1165, 1166, 1167, 1168, 1169, 1228, 1229, 1230, 1231, 1232, 1239, 1240, 1241, 1242, 1243, 1223, 1224, 1225, 1226, 1227, 1233, 1234, 1235, 1236, 1237, 1238, 1215, 1216, 1217, 1218, 1219, 1220, 1221, 1222, 1247, 1248] (by decide +kernel) (by decide +kernel)
set_option maxRecDepth 20000 in
theorem gL_law_X9_keep : GoodIn wsL_law (wsV RL 165 RX9 yX9_keep wsX9_keep) := goodIn_app (goodIn_of _ (by decide +kernel)) ggL_law_X9_keep
set_option maxRecDepth 20000 in
theorem ggL_law_X10_keep : GoodIn wsL_law wsX10_keep := goodIn_r _ [1017, 160, 48, 49, 65, 66, 67, 68, 47, 69, 50, 1018, 1019, 5, 1020, 205, 206, 207, 208, 162, 255, 256, 257, 166, 167, 168, 169, 163, 164, 165, 1021, 1022, 1023, 1024, 54, 264, 265, 266, 1170, 1171, 1172, 1173, 1174, 1175, 1176, 1177, 1178, 1179, 1180, 1181, 1182, 1183, 1184, 1185, 1186, 1187, 1188, 1189, 1190, 1191, 1192, 1193, 1194, 1195, 1196, 1197, 1198, 1199, 1200, 1201, 1202, 1203, 1204] (by decide +kernel) (by decide +kernel)
set_option maxRecDepth 20000 in
theorem gL_law_X10_keep : GoodIn wsL_law (wsV RL 169 RX10 yX10_keep wsX10_keep) := goodIn_app (goodIn_of _ (by decide +kernel)) ggL_law_X10_keep
set_option maxRecDepth 20000 in
theorem ggL_law_X9_make : GoodIn wsL_law wsX9_make := goodIn_r _ [1028, 20, 994, 995, 996, 935, 936, 2, 937, 998, 999, 1000, 1001, 6, 1002, 141, 142, 143, 144, 12, 13, 1161, 1162, 1163, 1164, 1165, 1166, 1167, 1168, 1169, 1247, 1248] (by decide +kernel) (by decide +kernel)
set_option maxRecDepth 20000 in
theorem gL_law_X9_make : GoodIn wsL_law (wsV RL 170 RX9 yX9_make wsX9_make) := goodIn_app (goodIn_of _ (by decide +kernel)) ggL_law_X9_make
set_option maxRecDepth 20000 in
theorem ggL_law_X10_make : GoodIn wsL_law wsX10_make := goodIn_r _ [1032, 160, 161, 1033, 65, 66, 69, 1018, 1019, 5, 1020, 163, 164, 165, 1170, 1171, 1172, 1173, 1174, 1175, 1176, 1177, 1178, 1179, 1180, 1181, 1182, 1183, 1184, 1185, 1186, 1187, 1188, 1189, 1190, 1191, 1192, 1193, 1194, 1195, 1196, 1197, 1198, 1199, 1200, 1201, 1202, 1203, 1204] (by decide +kernel) (by decide +kernel)
set_option maxRecDepth 20000 in
theorem gL_law_X10_make : GoodIn wsL_law (wsV RL 173 RX10 yX10_make wsX10_make) := goodIn_app (goodIn_of _ (by decide +kernel)) ggL_law_X10_make
set_option maxRecDepth 20000 in
theorem ggL_law_L_element : GoodIn wsL_law wsL_element := goodIn_ca (goodIn_ca (goodIn_r _ [1036, 640, 641, 1037, 1038, 1039, 2, 1040, 650, 651, 656, 657, 20, 1041, 935, 936, 937, 1042, 1008, 1009, 996, 1010, 1002, 1043, 1044, 1045, 1046, 1007, 1161, 1162, 1163, 1164, 1165, 1166, 1167, 1168, 1169, 1247, 1248] (by decide +kernel) (by decide +kernel)) (goodIn_sub (fun _ h => List.mem_append_left _ (List.mem_append_left _ (List.mem_append_left _ (List.mem_append_left _ (List.mem_append_right _ h))))) (by decide +kernel))) (goodIn_sub (fun _ h => List.mem_append_left _ (List.mem_append_left _ (List.mem_append_left _ (List.mem_append_right _ h)))) (by decide +kernel))
set_option maxRecDepth 20000 in
theorem gL_law_L_element : GoodIn wsL_law (va_wsS RL 174 yL_element wsL_element) := goodIn_app (goodIn_of _ (by decide +kernel)) ggL_law_L_element
set_option maxRecDepth 20000 in
theorem ggL_law_X10_element : GoodIn wsL_law wsX10_element := goodIn_r _ [1050, 65, 66, 160, 69, 1018, 1019, 5, 1020, 163, 164, 165, 1170, 1171, 1172, 1173, 1174, 1175, 1176, 1177, 1178, 1179, 1180, 1181, 1182, 1183, 1184, 1185, 1186, 1187, 1188, 1189, 1190, 1191, 1192, 1193, 1194, 1195, 1196, 1197, 1198, 1199, 1200, 1201, 1202, 1203, 1204] (by decide +kernel) (by decide +kernel)
set_option maxRecDepth 20000 in
theorem gL_law_X10_element : GoodIn wsL_law (wsV RL 177 RX10 yX10_element wsX10_element) := goodIn_app (goodIn_of _ (by decide +kernel)) ggL_law_X10_element
set_option maxRecDepth 20000 in
theorem ggL_law_X9_copy : GoodIn wsL_law wsX9_copy := goodIn_r _ [1054, 20, 1041, 1055, 935, 936, 2, 937, 1042, 1008, 1009, 996, 1010, 1002, 1056, 1057, 1058, 1059, 1060, 955, 956, 957, 1007, 1161, 1162, 1163, 1164, 1165, 1166, 1167, 1168, 1169, 1247, 1248] (by decide +kernel) (by decide +kernel)
set_option maxRecDepth 20000 in
theorem gL_law_X9_copy : GoodIn wsL_law (wsV RL 178 RX9 yX9_copy wsX9_copy) := goodIn_app (goodIn_of _ (by decide +kernel)) ggL_law_X9_copy
set_option maxRecDepth 20000 in
theorem ggL_law_X10_copy : GoodIn wsL_law wsX10_copy := goodIn_r _ [1064, 160, 65, 70, 69, 1018, 1019, 5, 1020, 1065, 1066, 1067, 1068, 66, 1170, 1171, 1172, 1173, 1174, 1175, 1176, 1177, 1178, 1179, 1180, 1181, 1182, 1183, 1184, 1185, 1186, 1187, 1188, 1189, 1190, 1191, 1192, 1193, 1194, 1195, 1196, 1197, 1198, 1199, 1200, 1201, 1202, 1203, 1204] (by decide +kernel) (by decide +kernel)
set_option maxRecDepth 20000 in
theorem gL_law_X10_copy : GoodIn wsL_law (wsV RL 182 RX10 yX10_copy wsX10_copy) := goodIn_app (goodIn_of _ (by decide +kernel)) ggL_law_X10_copy
set_option maxRecDepth 20000 in
theorem ggL_law_X9_layer : GoodIn wsL_law wsX9_layer := goodIn_r _ [1072, 565, 20, 1073, 1041, 1055, 1074, 935, 936, 2, 937, 1075, 1076, 1077, 1078, 567, 1079, 1080, 1081, 1082, 996, 1083, 1002, 1043, 1044, 1045, 1046, 1007, 1008, 1009, 1010, 1161, 1162, 1163, 1164, 1165, 1166, 1167, 1168, 1169, 1247, 1248] (by decide +kernel) (by decide +kernel)
set_option maxRecDepth 20000 in
theorem gL_law_X9_layer : GoodIn wsL_law (wsV RL 183 RX9 yX9_layer wsX9_layer) := goodIn_app (goodIn_of _ (by decide +kernel)) ggL_law_X9_layer
set_option maxRecDepth 20000 in
theorem ggL_law_X10_layer : GoodIn wsL_law wsX10_layer := goodIn_r _ [1087, 160, 892, 576, 65, 1088, 1089, 66, 1090, 69, 1091, 578, 1018, 1019, 5, 1020, 163, 164, 165, 1170, 1171, 1172, 1173, 1174, 1175, 1176, 1177, 1178, 1179, 1180, 1181, 1182, 1183, 1184, 1185, 1186, 1187, 1188, 1189, 1190, 1191, 1192, 1193, 1194, 1195, 1196, 1197, 1198, 1199, 1200, 1201, 1202, 1203, 1204] (by decide +kernel) (by decide +kernel)
set_option maxRecDepth 20000 in
theorem gL_law_X10_layer : GoodIn wsL_law (wsV RL 186 RX10 yX10_layer wsX10_layer) := goodIn_app (goodIn_of _ (by decide +kernel)) ggL_law_X10_layer
set_option maxRecDepth 20000 in
theorem ggL_law_L_weight : GoodIn wsL_law wsL_weight := goodIn_ca (goodIn_ca (goodIn_r _ [1094, 640, 641, 1095, 1096, 1097, 2, 1098, 650, 651, 656, 657, 20, 1099, 935, 936, 937, 1100, 1101, 1102, 1103, 1104, 124, 1105, 1106, 1107, 406, 1108, 121, 1109, 1110, 1111, 1112, 129, 1113, 140, 1114, 1115, 1116, 1117, 1118, 1119, 127, 1120, 1121, 1122, 1123, 1124, 659, 660, 661, 153, 1161, 1162, 1163, 1164, 1165, 1166, 1167, 1168, 1169, 1228, 1229, 1230, 1231, 1232, 1239, 1240, 1241, 1242, 1243, 1223, 1224, 1225, 1226, 1227, 1233, 1234, 1235, 1236, 1237, 1238, 1215, 1216, 1217, 1218, 1219, 1220, 1221, 1222] (by decide +kernel) (by decide +kernel)) (goodIn_sub (fun _ h => List.mem_append_left _ (List.mem_append_left _ (List.mem_append_left _ (List.mem_append_left _ (List.mem_append_right _ h))))) (by decide +kernel))) (goodIn_sub (fun _ h => List.mem_append_left _ (List.mem_append_left _ (List.mem_append_left _ (List.mem_append_right _ h)))) (by decide +kernel))
set_option maxRecDepth 20000 in
theorem gL_law_L_weight : GoodIn wsL_law (va_wsS RL 187 yL_weight wsL_weight) := goodIn_app (goodIn_of _ (by decide +kernel)) ggL_law_L_weight
