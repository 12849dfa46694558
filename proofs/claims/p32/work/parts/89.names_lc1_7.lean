set_option maxRecDepth 20000 in
theorem ggL_law_X10_weight : GoodIn wsL_law wsX10_weight := goodIn_r _ [1128, 65, 160, 67, 1018, 1019, 5, 1020, 1170, 1171, 1172, 1173, 1174, 1175, 1176, 1177, 1178, 1179, 1180, 1181, 1182, 1183, 1184, 1185, 1186, 1187, 1188, 1189, 1190, 1191, 1192, 1193, 1194, 1195, 1196, 1197, 1198, 1199, 1200, 1201, 1202, 1203, 1204] (by decide +kernel) (by decide +kernel)
set_option maxRecDepth 20000 in
theorem gL_law_X10_weight : GoodIn wsL_law (wsV RL 189 RX10 yX10_weight wsX10_weight) := goodIn_app (goodIn_of _ (by decide +kernel)) ggL_law_X10_weight
set_option maxRecDepth 20000 in
theorem ggL_law_X9_toss : GoodIn wsL_law wsX9_toss := goodIn_ca (goodIn_ca (goodIn_ca (goodIn_r _ [1132, 20, 1099, 935, 936, 2, 937, 1133, 1134, 1135, 656, 650, 1136, 1137, 1138, 1139, 1140, 1141, 124, 1142, 1143, 651, 1144, 1145, 1146, 1147, 129, 1148, 1149, 121, 1150, 1151, 657, 1152, 1153, 127, 1154, 1155, 1156, 1161, 1162, 1163, 1164, 1165, 1166, 1167, 1168, 1169] (by decide +kernel) (by decide +kernel)) (goodIn_sub (fun _ h => List.mem_append_left _ (List.mem_append_left _ (List.mem_append_right _ h))) (by decide +kernel))) (goodIn_sub (fun _ h => List.mem_append_left _ (List.mem_append_right _ h)) (by decide +kernel))) (goodIn_sub (fun _ h => List.mem_append_right _ h) (by decide +kernel))
set_option maxRecDepth 20000 in
theorem gL_law_X9_toss : GoodIn wsL_law (wsV RL 190 RX9 yX9_toss wsX9_toss) := goodIn_app (goodIn_of _ (by decide +kernel)) ggL_law_X9_toss
set_option maxRecDepth 20000 in
theorem ggL_law_X10_toss : GoodIn wsL_law wsX10_toss := goodIn_r _ [1160, 160, 65, 68, 1018, 1019, 5, 1020, 1170, 1171, 1172, 1173, 1174, 1175, 1176, 1177, 1178, 1179, 1180, 1181, 1182, 1183, 1184, 1185, 1186, 1187, 1188, 1189, 1190, 1191, 1192, 1193, 1194, 1195, 1196, 1197, 1198, 1199, 1200, 1201, 1202, 1203, 1204] (by decide +kernel) (by decide +kernel)
set_option maxRecDepth 20000 in
theorem gL_law_X10_toss : GoodIn wsL_law (wsV RL 193 RX10 yX10_toss wsX10_toss) := goodIn_app (goodIn_of _ (by decide +kernel)) ggL_law_X10_toss
