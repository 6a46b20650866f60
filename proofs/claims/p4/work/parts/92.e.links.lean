abbrev wsL_hd_X12_letter : Cond := .code yX12_letter cX12_letter 6 (some .int)
set_option maxRecDepth 20000 in
theorem ggL_law_X12_letter_0 : GoodIn wsL_law (wsL_hd_X12_letter :: wsX12_letter_r1) := goodIn_r _ [650, 159, 651, 652, 108, 653, 654, 655, 656, 657, 658, 659, 112, 110, 111, 660, 113, 114, 115, 116, 117, 109, 460, 461, 462] rfl (by decide +kernel)
set_option maxRecDepth 20000 in
theorem ggL_law_X12_letter_1 : GoodIn wsL_law wsX12_letter_r2 := goodIn_r _ [5, 463, 160, 464, 459, 107, 661, 662, 663, 664, 665, 476, 470, 666, 667, 668, 669, 670, 671, 493, 494, 495, 496, 106] rfl (by decide +kernel)
set_option maxRecDepth 20000 in
theorem ggL_law_X12_letter_2 : GoodIn wsL_law wsX12_letter_r3 := goodIn_r _ [481, 482, 483, 484, 497, 498, 499, 500, 501, 502, 503, 504, 505, 506, 507, 477, 478, 479, 480, 485, 486, 487, 488, 672] rfl (by decide +kernel)
set_option maxRecDepth 20000 in
theorem ggL_law_X12_letter_3 : GoodIn wsL_law wsX12_letter_r4 := goodIn_r _ [673, 674, 675, 676, 677, 678, 679, 300, 223, 224, 225, 226, 219, 90, 278, 279, 280, 281, 95, 97, 98, 96, 680, 681] rfl (by decide +kernel)
set_option maxRecDepth 20000 in
theorem ggL_law_X12_letter_4 : GoodIn wsL_law wsX12_letter_r5 := goodIn_r _ [682, 683, 684, 685, 686, 687, 688, 689, 690, 691, 692, 693, 694, 103, 695, 696, 697, 698, 122, 123, 124, 125, 126, 127] rfl (by decide +kernel)
set_option maxRecDepth 20000 in
theorem ggL_law_X12_letter_5 : GoodIn wsL_law wsX12_letter_r6 := goodIn_r _ [128, 129, 130, 131, 132, 118, 119, 121, 120, 699, 700, 701, 702, 81, 703, 704, 705, 61] rfl (by decide +kernel)
set_option maxRecDepth 20000 in
theorem ggL_law_X12_letter : GoodIn wsL_law wsX12_letter := goodIn_ca (goodIn_ca ggL_law_X12_letter_0 (goodIn_app ggL_law_X12_letter_1 (goodIn_app ggL_law_X12_letter_2 (goodIn_app ggL_law_X12_letter_3 (goodIn_app ggL_law_X12_letter_4 (ggL_law_X12_letter_5)))))) (goodIn_sub inlX12 (by decide +kernel))
set_option maxRecDepth 20000 in
theorem gL_law_X12_letter : GoodIn wsL_law (wsV RL 130 RX12 yX12_letter wsX12_letter) := goodIn_app (goodIn_of _ (by decide +kernel)) ggL_law_X12_letter
set_option maxRecDepth 20000 in
theorem ggL_law_X11_fault : GoodIn wsL_law wsX11_fault := goodIn_r _ [709, 44, 1057, 1058, 1059, 1060, 1061, 1062, 1063, 1064, 1065, 1066, 1067, 1068, 1069, 1070, 1071, 1072] rfl (by decide +kernel)
set_option maxRecDepth 20000 in
theorem gL_law_X11_fault : GoodIn wsL_law (wsV RL 131 RX11 yX11_fault wsX11_fault) := goodIn_app (goodIn_of _ (by decide +kernel)) ggL_law_X11_fault
set_option maxRecDepth 20000 in
theorem ggL_law_X12_fault : GoodIn wsL_law wsX12_fault := goodIn_r _ [713, 159, 107, 1073, 1074, 1075, 1076, 1077, 1078, 1079, 1080, 1081, 1082, 1083, 1084, 1085, 1086, 1087, 1088, 1089, 1090, 1091, 1092, 1093, 1094, 1095, 1096, 1097, 1098, 1099, 1100, 1101, 1102, 1103, 1104, 1105, 1106, 1107, 1108, 1109, 1110, 1111, 1112, 1113, 1114, 1115, 1116, 1117, 1118, 1119, 1120, 1121, 1122, 1123, 1124, 1125, 1126, 1127, 1128, 1129, 1130, 1131, 1132, 1133, 1134, 1135, 1136, 1137, 1138, 1139, 1140, 1141, 1142, 1143] rfl (by decide +kernel)
set_option maxRecDepth 20000 in
theorem gL_law_X12_fault : GoodIn wsL_law (wsV RL 134 RX12 yX12_fault wsX12_fault) := goodIn_app (goodIn_of _ (by decide +kernel)) ggL_law_X12_fault
set_option maxRecDepth 20000 in
theorem ggL_law_L_doubt : GoodIn wsL_law wsL_doubt := goodIn_ca (goodIn_ca (goodIn_r _ [716, 234, 511, 717, 718, 719, 2, 720, 516, 517, 545, 542, 575, 570, 556, 557, 721, 722, 723, 724, 244, 245, 544, 31, 188, 189, 190, 1177, 1178, 1179, 1180, 1181, 1182, 1183, 1184, 1185, 1186, 1057, 1058, 1059, 1060, 1061, 1062, 1063, 1064, 1065, 1066, 1067, 1068, 1069, 1070, 1071, 1072] rfl (by decide +kernel)) (goodIn_sub (fun _ h => List.mem_append_left _ (List.mem_append_right _ h)) (by decide +kernel))) (goodIn_sub (fun _ h => List.mem_append_left _ (List.mem_append_left _ (List.mem_append_right _ h))) (by decide +kernel))
set_option maxRecDepth 20000 in
theorem gL_law_L_doubt : GoodIn wsL_law (va_wsS RL 135 yL_doubt wsL_doubt) := goodIn_app (goodIn_of _ (by decide +kernel)) ggL_law_L_doubt
set_option maxRecDepth 20000 in
theorem ggL_law_X12_doubt : GoodIn wsL_law wsX12_doubt := goodIn_r _ [728, 159, 110, 111, 112, 113, 114, 115, 729, 730, 731, 5, 732, 659, 220, 221, 222, 1073, 1074, 1075, 1076, 1077, 1078, 1079, 1080, 1081, 1082, 1083, 1084, 1085, 1086, 1087, 1088, 1089, 1090, 1091, 1092, 1093, 1094, 1095, 1096, 1097, 1098, 1099, 1100, 1101, 1102, 1103, 1104, 1105, 1106, 1107, 1108, 1109, 1110, 1111, 1112, 1113, 1114, 1115, 1116, 1117, 1118, 1119, 1120, 1121, 1122, 1123, 1124, 1125, 1126, 1127, 1128, 1129, 1130, 1131, 1132, 1133, 1134, 1135, 1136, 1137, 1138, 1139, 1140, 1141, 1142, 1143] rfl (by decide +kernel)
set_option maxRecDepth 20000 in
theorem gL_law_X12_doubt : GoodIn wsL_law (wsV RL 137 RX12 yX12_doubt wsX12_doubt) := goodIn_app (goodIn_of _ (by decide +kernel)) ggL_law_X12_doubt
set_option maxRecDepth 20000 in
theorem ggL_law_L_settle : GoodIn wsL_law wsL_settle := goodIn_ca (goodIn_ca (goodIn_ca (goodIn_r _ [735, 234, 736, 178, 737, 738, 739, 2, 740, 741, 742, 545, 721, 722, 723, 724, 244, 245, 544, 31, 188, 189, 190, 594, 595, 596, 597, 557, 28, 598, 599, 600, 601, 575, 567, 289, 576, 577, 578, 579, 580, 20, 191, 192, 193, 19, 194, 195, 55, 196, 270, 271, 272, 202, 273, 254, 208, 209, 207, 602, 603, 604, 27, 605, 68, 606, 607, 608, 609, 185, 186, 610, 611, 612, 613, 614, 32, 615, 616, 617, 618, 619, 33, 620, 621, 622, 623, 11, 12, 624, 625, 626, 627, 628, 629, 630, 631, 632, 633, 634, 635, 636, 637, 638, 639, 640, 641, 642, 1177, 1178, 1179, 1180, 1181, 1182, 1183, 1184, 1185, 1186, 1057, 1058, 1059, 1060, 1061, 1062, 1063, 1064, 1065, 1066, 1067, 1068, 1069, 1070, 1071, 1072, 1148, 1149, 1167, 1168, 1169, 1170, 1171, 1172, 1173, 1174, 1175, 1176, 1154, 1155, 1187, 1188, 1189, 1190, 1191, 1192, 1193, 1194, 1195, 1196, 1197, 1198, 1199, 1200, 1201, 1202] rfl (by decide +kernel)) (goodIn_sub (fun _ h => List.mem_append_right _ h) (by decide +kernel))) (goodIn_sub (fun _ h => List.mem_append_left _ (List.mem_append_left _ (List.mem_append_right _ h))) (by decide +kernel))) (goodIn_sub (fun _ h => List.mem_append_left _ (List.mem_append_left _ (List.mem_append_left _ (List.mem_append_right _ h)))) (by decide +kernel))
set_option maxRecDepth 20000 in
theorem gL_law_L_settle : GoodIn wsL_law (va_wsS RL 138 yL_settle wsL_settle) := goodIn_app (goodIn_of _ (by decide +kernel)) ggL_law_L_settle
