set_option maxRecDepth 20000 in
theorem ggL_law_X11_fault : GoodIn wsL_law wsX11_fault := goodIn_r _ [705, 44, 1057, 1058, 1059, 1060, 1061, 1062, 1063, 1064, 1065, 1066, 1067, 1068, 1069, 1070, 1071, 1072] (by decide +kernel) (by decide +kernel)
set_option maxRecDepth 20000 in
theorem gL_law_X11_fault : GoodIn wsL_law (wsV RL 128 RX11 yX11_fault wsX11_fault) := goodIn_app (goodIn_of _ (by decide +kernel)) ggL_law_X11_fault
set_option maxRecDepth 20000 in
theorem ggL_law_X12_fault : GoodIn wsL_law wsX12_fault := goodIn_r _ [709, 159, 107, 1073, 1074, 1075, 1076, 1077, 1078, 1079, 1080, 1081, 1082, 1083, 1084, 1085, 1086, 1087, 1088, 1089, 1090, 1091, 1092, 1093, 1094, 1095, 1096, 1097, 1098, 1099, 1100, 1101, 1102, 1103, 1104, 1105, 1106, 1107, 1108, 1109, 1110, 1111, 1112, 1113, 1114, 1115, 1116, 1117, 1118, 1119, 1120, 1121, 1122, 1123, 1124, 1125, 1126, 1127, 1128, 1129, 1130, 1131, 1132, 1133, 1134, 1135, 1136, 1137, 1138, 1139, 1140, 1141, 1142, 1143] (by decide +kernel) (by decide +kernel)
set_option maxRecDepth 20000 in
theorem gL_law_X12_fault : GoodIn wsL_law (wsV RL 131 RX12 yX12_fault wsX12_fault) := goodIn_app (goodIn_of _ (by decide +kernel)) ggL_law_X12_fault
set_option maxRecDepth 20000 in
theorem ggL_law_L_doubt : GoodIn wsL_law wsL_doubt := goodIn_ca (goodIn_ca (goodIn_r _ [712, 230, 507, 713, 714, 715, 2, 716, 512, 513, 541, 538, 571, 566, 552, 553, 717, 718, 719, 720, 240, 241, 540, 31, 188, 189, 190, 1177, 1178, 1179, 1180, 1181, 1182, 1183, 1184, 1185, 1186, 1057, 1058, 1059, 1060, 1061, 1062, 1063, 1064, 1065, 1066, 1067, 1068, 1069, 1070, 1071, 1072] (by decide +kernel) (by decide +kernel)) (goodIn_sub (fun _ h => List.mem_append_left _ (List.mem_append_right _ h)) (by decide +kernel))) (goodIn_sub (fun _ h => List.mem_append_left _ (List.mem_append_left _ (List.mem_append_right _ h))) (by decide +kernel))
set_option maxRecDepth 20000 in
theorem gL_law_L_doubt : GoodIn wsL_law (va_wsS RL 132 yL_doubt wsL_doubt) := goodIn_app (goodIn_of _ (by decide +kernel)) ggL_law_L_doubt
set_option maxRecDepth 20000 in
theorem ggL_law_X12_doubt : GoodIn wsL_law wsX12_doubt := goodIn_r _ [724, 159, 110, 111, 112, 113, 114, 115, 725, 726, 727, 5, 728, 655, 220, 221, 222, 1073, 1074, 1075, 1076, 1077, 1078, 1079, 1080, 1081, 1082, 1083, 1084, 1085, 1086, 1087, 1088, 1089, 1090, 1091, 1092, 1093, 1094, 1095, 1096, 1097, 1098, 1099, 1100, 1101, 1102, 1103, 1104, 1105, 1106, 1107, 1108, 1109, 1110, 1111, 1112, 1113, 1114, 1115, 1116, 1117, 1118, 1119, 1120, 1121, 1122, 1123, 1124, 1125, 1126, 1127, 1128, 1129, 1130, 1131, 1132, 1133, 1134, 1135, 1136, 1137, 1138, 1139, 1140, 1141, 1142, 1143] (by decide +kernel) (by decide +kernel)
set_option maxRecDepth 20000 in
theorem gL_law_X12_doubt : GoodIn wsL_law (wsV RL 134 RX12 yX12_doubt wsX12_doubt) := goodIn_app (goodIn_of _ (by decide +kernel)) ggL_law_X12_doubt
set_option maxRecDepth 20000 in
theorem ggL_law_L_settle : GoodIn wsL_law wsL_settle := goodIn_ca (goodIn_ca (goodIn_ca (goodIn_r _ [731, 230, 732, 178, 733, 734, 735, 2, 736, 737, 738, 541, 717, 718, 719, 720, 240, 241, 540, 31, 188, 189, 190, 590, 591, 592, 593, 553, 28, 594, 595, 596, 597, 571, 563, 285, 572, 573, 574, 575, 576, 20, 191, 192, 193, 19, 194, 195, 55, 196, 266, 267, 268, 202, 269, 250, 208, 209, 207, 598, 599, 600, 27, 601, 68, 602, 603, 604, 605, 185, 186, 606, 607, 608, 609, 610, 32, 611, 612, 613, 614, 615, 33, 616, 617, 618, 619, 11, 12, 620, 621, 622, 623, 624, 625, 626, 627, 628, 629, 630, 631, 632, 633, 634, 635, 636, 637, 638, 1177, 1178, 1179, 1180, 1181, 1182, 1183, 1184, 1185, 1186, 1057, 1058, 1059, 1060, 1061, 1062, 1063, 1064, 1065, 1066, 1067, 1068, 1069, 1070, 1071, 1072, 1148, 1149, 1167, 1168, 1169, 1170, 1171, 1172, 1173, 1174, 1175, 1176, 1154, 1155, 1187, 1188, 1189, 1190, 1191, 1192, 1193, 1194, 1195, 1196, 1197, 1198, 1199, 1200, 1201, 1202] (by decide +kernel) (by decide +kernel)) (goodIn_sub (fun _ h => List.mem_append_right _ h) (by decide +kernel))) (goodIn_sub (fun _ h => List.mem_append_left _ (List.mem_append_left _ (List.mem_append_right _ h))) (by decide +kernel))) (goodIn_sub (fun _ h => List.mem_append_left _ (List.mem_append_left _ (List.mem_append_left _ (List.mem_append_right _ h)))) (by decide +kernel))
set_option maxRecDepth 20000 in
theorem gL_law_L_settle : GoodIn wsL_law (va_wsS RL 135 yL_settle wsL_settle) := goodIn_app (goodIn_of _ (by decide +kernel)) ggL_law_L_settle
abbrev wsL_hd_X12_settle : Cond := .code yX12_settle cX12_settle 7 (some .int)
set_option maxRecDepth 20000 in
theorem ggL_law_X12_settle_0 : GoodIn wsL_law (wsL_hd_X12_settle :: wsX12_settle_r1) := goodIn_r _ [742, 110, 159, 112, 656, 115, 651, 108, 116, 109, 117, 652, 653, 725, 726, 727, 5, 728, 655, 672, 673, 674, 675, 296, 223] (by decide +kernel) (by decide +kernel)
set_option maxRecDepth 20000 in
theorem ggL_law_X12_settle_1 : GoodIn wsL_law wsX12_settle_r2 := goodIn_r _ [224, 225, 226, 219, 90, 274, 275, 276, 277, 95, 97, 98, 96, 683, 684, 685, 686, 687, 688, 689, 690, 103, 691, 692] (by decide +kernel) (by decide +kernel)
set_option maxRecDepth 20000 in
theorem ggL_law_X12_settle_2 : GoodIn wsL_law wsX12_settle_r3 := goodIn_r _ [693, 694, 122, 123, 124, 125, 126, 127, 128, 129, 130, 131, 132, 118, 119, 121, 120] (by decide +kernel) (by decide +kernel)
set_option maxRecDepth 20000 in
theorem ggL_law_X12_settle : GoodIn wsL_law wsX12_settle := goodIn_ca (goodIn_ca ggL_law_X12_settle_0 (goodIn_app ggL_law_X12_settle_1 (ggL_law_X12_settle_2))) (goodIn_sub inlX12 (by decide +kernel))
set_option maxRecDepth 20000 in
theorem gL_law_X12_settle : GoodIn wsL_law (wsV RL 138 RX12 yX12_settle wsX12_settle) := goodIn_app (goodIn_of _ (by decide +kernel)) ggL_law_X12_settle
