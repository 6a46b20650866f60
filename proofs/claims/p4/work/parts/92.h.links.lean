set_option maxRecDepth 20000 in
theorem ggL_law_X12_pick : GoodIn wsL_law wsX12_pick := goodIn_r _ [951, 159, 952, 139, 259, 260, 261, 5, 262, 219, 1073, 1074, 1075, 1076, 1077, 1078, 1079, 1080, 1081, 1082, 1083, 1084, 1085, 1086, 1087, 1088, 1089, 1090, 1091, 1092, 1093, 1094, 1095, 1096, 1097, 1098, 1099, 1100, 1101, 1102, 1103, 1104, 1105, 1106, 1107, 1108, 1109, 1110, 1111, 1112, 1113, 1114, 1115, 1116, 1117, 1118, 1119, 1120, 1121, 1122, 1123, 1124, 1125, 1126, 1127, 1128, 1129, 1130, 1131, 1132, 1133, 1134, 1135, 1136, 1137, 1138, 1139, 1140, 1141, 1142, 1143] rfl (by decide +kernel)
set_option maxRecDepth 20000 in
theorem gL_law_X12_pick : GoodIn wsL_law (wsV RL 159 RX12 yX12_pick wsX12_pick) := goodIn_app (goodIn_of _ (by decide +kernel)) ggL_law_X12_pick
abbrev wsL_hd_X11_walk : Cond := .code yX11_walk cX11_walk 2 (some .int)
set_option maxRecDepth 20000 in
theorem ggL_law_X11_walk_0 : GoodIn wsL_law (wsL_hd_X11_walk :: wsX11_walk_r1) := goodIn_r _ [956, 43, 957, 958, 959, 960, 42, 961, 947, 84, 962, 963, 964, 965, 966, 80, 967, 968, 969, 786, 970, 971, 972, 973, 974] rfl (by decide +kernel)
set_option maxRecDepth 20000 in
theorem ggL_law_X11_walk_1 : GoodIn wsL_law wsX11_walk_r2 := goodIn_r _ [82, 975, 976, 785, 787, 83, 189, 2, 190, 977, 978, 979, 980, 85, 981, 982, 983, 326, 327, 328, 984, 985, 986, 987] rfl (by decide +kernel)
set_option maxRecDepth 20000 in
theorem ggL_law_X11_walk_2 : GoodIn wsL_law wsX11_walk_r3 := goodIn_r _ [988, 989, 990, 991, 992] rfl (by decide +kernel)
set_option maxRecDepth 20000 in
theorem ggL_law_X11_walk : GoodIn wsL_law wsX11_walk := goodIn_ca (goodIn_ca (goodIn_ca (goodIn_ca ggL_law_X11_walk_0 (goodIn_app ggL_law_X11_walk_1 (ggL_law_X11_walk_2))) (goodIn_sub inlX11 (by decide +kernel))) (goodIn_sub inlX9 (by decide +kernel))) (goodIn_sub inlX8 (by decide +kernel))
set_option maxRecDepth 20000 in
theorem gL_law_X11_walk : GoodIn wsL_law (wsV RL 160 RX11 yX11_walk wsX11_walk) := goodIn_app (goodIn_of _ (by decide +kernel)) ggL_law_X11_walk
set_option maxRecDepth 20000 in
theorem ggL_law_X12_walk : GoodIn wsL_law wsX12_walk := goodIn_r _ [996, 159, 952, 140, 997, 998, 999, 5, 1000, 92, 139, 93, 1001, 1002, 1003, 1004, 1005, 1006, 1007, 1073, 1074, 1075, 1076, 1077, 1078, 1079, 1080, 1081, 1082, 1083, 1084, 1085, 1086, 1087, 1088, 1089, 1090, 1091, 1092, 1093, 1094, 1095, 1096, 1097, 1098, 1099, 1100, 1101, 1102, 1103, 1104, 1105, 1106, 1107, 1108, 1109, 1110, 1111, 1112, 1113, 1114, 1115, 1116, 1117, 1118, 1119, 1120, 1121, 1122, 1123, 1124, 1125, 1126, 1127, 1128, 1129, 1130, 1131, 1132, 1133, 1134, 1135, 1136, 1137, 1138, 1139, 1140, 1141, 1142, 1143] rfl (by decide +kernel)
set_option maxRecDepth 20000 in
theorem gL_law_X12_walk : GoodIn wsL_law (wsV RL 163 RX12 yX12_walk wsX12_walk) := goodIn_app (goodIn_of _ (by decide +kernel)) ggL_law_X12_walk
set_option maxRecDepth 20000 in
theorem ggL_law_L_foretold : GoodIn wsL_law wsL_foretold := goodIn_ca (goodIn_ca (goodIn_ca (goodIn_r _ [1010, 234, 177, 511, 1011, 1012, 1013, 2, 1014, 183, 184, 516, 517, 309, 24, 1015, 969, 786, 970, 240, 241, 242, 243, 244, 245, 20, 246, 247, 248, 19, 249, 195, 55, 189, 190, 188, 1016, 1017, 1018, 1019, 610, 33, 789, 1020, 1021, 1022, 616, 1023, 642, 625, 1024, 1025, 1026, 1027, 1028, 1029, 1030, 1031, 23, 1032, 295, 60, 63, 1167, 1168, 1169, 1170, 1171, 1172, 1173, 1174, 1175, 1176, 1057, 1058, 1059, 1060, 1061, 1062, 1063, 1064, 1065, 1066, 1067, 1068, 1069, 1070, 1071, 1072, 1148, 1149, 1187, 1188, 1189, 1190, 1191, 1192, 1193, 1194, 1195, 1196, 1197, 1198, 1199, 1200, 1201, 1202, 1150, 1151, 1152, 1153] rfl (by decide +kernel)) (goodIn_sub (fun _ h => List.mem_append_left _ (List.mem_append_left _ (List.mem_append_left _ (List.mem_append_left _ (List.mem_append_right _ h))))) (by decide +kernel))) (goodIn_sub (fun _ h => List.mem_append_left _ (List.mem_append_right _ h)) (by decide +kernel))) (goodIn_sub (fun _ h => List.mem_append_left _ (List.mem_append_left _ (List.mem_append_right _ h))) (by decide +kernel))
set_option maxRecDepth 20000 in
theorem gL_law_L_foretold : GoodIn wsL_law (va_wsS RL 164 yL_foretold wsL_foretold) := goodIn_app (goodIn_of _ (by decide +kernel)) ggL_law_L_foretold
set_option maxRecDepth 20000 in
theorem ggL_law_X12_foretold : GoodIn wsL_law wsX12_foretold := goodIn_r _ [1036, 159, 656, 122, 123, 118, 124, 94, 301, 100, 102, 220, 221, 5, 222, 259, 260, 261, 262, 219, 1073, 1074, 1075, 1076, 1077, 1078, 1079, 1080, 1081, 1082, 1083, 1084, 1085, 1086, 1087, 1088, 1089, 1090, 1091, 1092, 1093, 1094, 1095, 1096, 1097, 1098, 1099, 1100, 1101, 1102, 1103, 1104, 1105, 1106, 1107, 1108, 1109, 1110, 1111, 1112, 1113, 1114, 1115, 1116, 1117, 1118, 1119, 1120, 1121, 1122, 1123, 1124, 1125, 1126, 1127, 1128, 1129, 1130, 1131, 1132, 1133, 1134, 1135, 1136, 1137, 1138, 1139, 1140, 1141, 1142, 1143] rfl (by decide +kernel)
set_option maxRecDepth 20000 in
theorem gL_law_X12_foretold : GoodIn wsL_law (wsV RL 167 RX12 yX12_foretold wsX12_foretold) := goodIn_app (goodIn_of _ (by decide +kernel)) ggL_law_X12_foretold
abbrev wsL_hd_X11_count : Cond := .code yX11_count cX11_count 2 (some .int)
set_option maxRecDepth 20000 in
theorem ggL_law_X11_count_0 : GoodIn wsL_law (wsL_hd_X11_count :: wsX11_count_r1) := goodIn_r _ [1040, 289, 20, 187, 610, 770, 43, 957, 543, 24, 643, 644, 645, 2, 646, 544, 31, 545, 1041, 1042, 1043, 1044, 33, 857, 1045] rfl (by decide +kernel)
set_option maxRecDepth 20000 in
theorem ggL_law_X11_count_1 : GoodIn wsL_law wsX11_count_r2 := goodIn_r _ [1046, 1047, 1048, 814, 1049, 1050, 1051, 23, 1052, 295, 63] rfl (by decide +kernel)
set_option maxRecDepth 20000 in
theorem ggL_law_X11_count : GoodIn wsL_law wsX11_count := goodIn_ca (goodIn_ca (goodIn_ca (goodIn_ca (goodIn_ca (goodIn_ca (goodIn_ca ggL_law_X11_count_0 (ggL_law_X11_count_1)) (goodIn_sub inlX11 (by decide +kernel))) (goodIn_sub inlX0 (by decide +kernel))) (goodIn_sub inlX9 (by decide +kernel))) (goodIn_sub inlX2 (by decide +kernel))) (goodIn_sub inlX3 (by decide +kernel))) (goodIn_sub inlX1 (by decide +kernel))
set_option maxRecDepth 20000 in
theorem gL_law_X11_count : GoodIn wsL_law (wsV RL 168 RX11 yX11_count wsX11_count) := goodIn_app (goodIn_of _ (by decide +kernel)) ggL_law_X11_count
