set_option maxRecDepth 20000 in
theorem ggL_law_X12_want : GoodIn wsL_law wsX12_want := goodIn_r _ [892, 159, 123, 124, 125, 126, 127, 128, 129, 131, 132, 893, 894, 895, 5, 896, 122, 872, 873, 874, 875, 656, 220, 221, 222, 1073, 1074, 1075, 1076, 1077, 1078, 1079, 1080, 1081, 1082, 1083, 1084, 1085, 1086, 1087, 1088, 1089, 1090, 1091, 1092, 1093, 1094, 1095, 1096, 1097, 1098, 1099, 1100, 1101, 1102, 1103, 1104, 1105, 1106, 1107, 1108, 1109, 1110, 1111, 1112, 1113, 1114, 1115, 1116, 1117, 1118, 1119, 1120, 1121, 1122, 1123, 1124, 1125, 1126, 1127, 1128, 1129, 1130, 1131, 1132, 1133, 1134, 1135, 1136, 1137, 1138, 1139, 1140, 1141, 1142, 1143] rfl (by decide +kernel)
set_option maxRecDepth 20000 in
theorem gL_law_X12_want : GoodIn wsL_law (wsV RL 150 RX12 yX12_want wsX12_want) := goodIn_app (goodIn_of _ (by decide +kernel)) ggL_law_X12_want
set_option maxRecDepth 20000 in
theorem ggL_law_L_back : GoodIn wsL_law wsL_back := goodIn_ca (goodIn_ca (goodIn_r _ [899, 234, 177, 900, 901, 902, 2, 903, 183, 184, 289, 801, 28, 343, 814, 815, 859, 860, 861, 862, 244, 245, 610, 33, 188, 189, 190, 886, 887, 888, 767, 768, 904, 905, 906, 619, 907, 794, 795, 908, 909, 910, 911, 912, 913, 914, 785, 786, 787, 915, 916, 635, 1057, 1058, 1059, 1060, 1061, 1062, 1063, 1064, 1065, 1066, 1067, 1068, 1069, 1070, 1071, 1072, 1193, 1194, 1195, 1196, 1197, 1198, 1199, 1200, 1201, 1202, 1154, 1155, 1187, 1188, 1189, 1190, 1191, 1192, 1167, 1168, 1169, 1170, 1171, 1172, 1173, 1174, 1175, 1176] rfl (by decide +kernel)) (goodIn_sub (fun _ h => List.mem_append_left _ (List.mem_append_left _ (List.mem_append_left _ (List.mem_append_left _ (List.mem_append_right _ h))))) (by decide +kernel))) (goodIn_sub (fun _ h => List.mem_append_left _ (List.mem_append_left _ (List.mem_append_right _ h))) (by decide +kernel))
set_option maxRecDepth 20000 in
theorem gL_law_L_back : GoodIn wsL_law (va_wsS RL 151 yL_back wsL_back) := goodIn_app (goodIn_of _ (by decide +kernel)) ggL_law_L_back
abbrev wsL_hd_X12_back : Cond := .code yX12_back cX12_back 6 (some .boolean)
set_option maxRecDepth 20000 in
theorem ggL_law_X12_back_0 : GoodIn wsL_law (wsL_hd_X12_back :: wsX12_back_r1) := goodIn_r _ [920, 159, 131, 300, 103, 126, 127, 129, 130, 94, 132, 123, 120, 125, 893, 894, 895, 5, 896, 122, 872, 873, 874, 875, 656] rfl (by decide +kernel)
set_option maxRecDepth 20000 in
theorem ggL_law_X12_back_1 : GoodIn wsL_law wsX12_back_r2 := goodIn_r _ [220, 221, 222] rfl (by decide +kernel)
set_option maxRecDepth 20000 in
theorem ggL_law_X12_back : GoodIn wsL_law wsX12_back := goodIn_ca (goodIn_ca ggL_law_X12_back_0 (ggL_law_X12_back_1)) (goodIn_sub inlX12 (by decide +kernel))
set_option maxRecDepth 20000 in
theorem gL_law_X12_back : GoodIn wsL_law (wsV RL 153 RX12 yX12_back wsX12_back) := goodIn_app (goodIn_of _ (by decide +kernel)) ggL_law_X12_back
set_option maxRecDepth 20000 in
theorem ggL_law_L_sending : GoodIn wsL_law wsL_sending := goodIn_ca (goodIn_ca (goodIn_r _ [923, 234, 511, 924, 925, 926, 2, 927, 244, 245, 516, 517, 770, 35, 928, 929, 930, 931, 188, 189, 190, 1057, 1058, 1059, 1060, 1061, 1062, 1063, 1064, 1065, 1066, 1067, 1068, 1069, 1070, 1071, 1072, 1203, 1204, 1205, 1206] rfl (by decide +kernel)) (goodIn_sub (fun _ h => List.mem_append_left _ (List.mem_append_left _ (List.mem_append_right _ h))) (by decide +kernel))) (goodIn_sub (fun _ h => List.mem_append_left _ (List.mem_append_right _ h)) (by decide +kernel))
set_option maxRecDepth 20000 in
theorem gL_law_L_sending : GoodIn wsL_law (va_wsS RL 154 yL_sending wsL_sending) := goodIn_app (goodIn_of _ (by decide +kernel)) ggL_law_L_sending
set_option maxRecDepth 20000 in
theorem ggL_law_X12_sending : GoodIn wsL_law wsX12_sending := goodIn_r _ [935, 841, 159, 133, 134, 135, 136, 220, 221, 5, 222, 1073, 1074, 1075, 1076, 1077, 1078, 1079, 1080, 1081, 1082, 1083, 1084, 1085, 1086, 1087, 1088, 1089, 1090, 1091, 1092, 1093, 1094, 1095, 1096, 1097, 1098, 1099, 1100, 1101, 1102, 1103, 1104, 1105, 1106, 1107, 1108, 1109, 1110, 1111, 1112, 1113, 1114, 1115, 1116, 1117, 1118, 1119, 1120, 1121, 1122, 1123, 1124, 1125, 1126, 1127, 1128, 1129, 1130, 1131, 1132, 1133, 1134, 1135, 1136, 1137, 1138, 1139, 1140, 1141, 1142, 1143] rfl (by decide +kernel)
set_option maxRecDepth 20000 in
theorem gL_law_X12_sending : GoodIn wsL_law (wsV RL 156 RX12 yX12_sending wsX12_sending) := goodIn_app (goodIn_of _ (by decide +kernel)) ggL_law_X12_sending
set_option maxRecDepth 20000 in
theorem ggL_law_L_pick : GoodIn wsL_law wsL_pick := goodIn_ca (goodIn_r _ [938, 234, 939, 940, 941, 2, 942, 43, 240, 241, 242, 243, 244, 245, 20, 246, 247, 248, 19, 249, 195, 55, 189, 190, 943, 944, 945, 42, 946, 947, 80, 1057, 1058, 1059, 1060, 1061, 1062, 1063, 1064, 1065, 1066, 1067, 1068, 1069, 1070, 1071, 1072, 1148, 1149, 1161, 1162, 1163, 1164, 1165, 1166] rfl (by decide +kernel)) (goodIn_sub (fun _ h => List.mem_append_left _ (List.mem_append_left _ (List.mem_append_right _ h))) (by decide +kernel))
set_option maxRecDepth 20000 in
theorem gL_law_L_pick : GoodIn wsL_law (va_wsS RL 157 yL_pick wsL_pick) := goodIn_app (goodIn_of _ (by decide +kernel)) ggL_law_L_pick
