abbrev wsL_hd_X12_settle : Cond := .code yX12_settle cX12_settle 7 (some .int)
set_option maxRecDepth 20000 in
theorem ggL_law_X12_settle_0 : GoodIn wsL_law (wsL_hd_X12_settle :: wsX12_settle_r1) := goodIn_r _ [746, 110, 159, 112, 660, 115, 655, 108, 116, 109, 117, 656, 657, 729, 730, 731, 5, 732, 659, 676, 677, 678, 679, 300, 223] rfl (by decide +kernel)
set_option maxRecDepth 20000 in
theorem ggL_law_X12_settle_1 : GoodIn wsL_law wsX12_settle_r2 := goodIn_r _ [224, 225, 226, 219, 90, 278, 279, 280, 281, 95, 97, 98, 96, 687, 688, 689, 690, 691, 692, 693, 694, 103, 695, 696] rfl (by decide +kernel)
set_option maxRecDepth 20000 in
theorem ggL_law_X12_settle_2 : GoodIn wsL_law wsX12_settle_r3 := goodIn_r _ [697, 698, 122, 123, 124, 125, 126, 127, 128, 129, 130, 131, 132, 118, 119, 121, 120] rfl (by decide +kernel)
set_option maxRecDepth 20000 in
theorem ggL_law_X12_settle : GoodIn wsL_law wsX12_settle := goodIn_ca (goodIn_ca ggL_law_X12_settle_0 (goodIn_app ggL_law_X12_settle_1 (ggL_law_X12_settle_2))) (goodIn_sub inlX12 (by decide +kernel))
set_option maxRecDepth 20000 in
theorem gL_law_X12_settle : GoodIn wsL_law (wsV RL 141 RX12 yX12_settle wsX12_settle) := goodIn_app (goodIn_of _ (by decide +kernel)) ggL_law_X12_settle
set_option maxRecDepth 20000 in
theorem ggL_law_L_days : GoodIn wsL_law wsL_days := goodIn_ca (goodIn_r _ [749, 177, 750, 751, 752, 2, 753, 183, 184, 289, 188, 189, 190, 754, 755, 756, 757, 24, 610, 758, 759, 760, 23, 761, 295, 62, 60, 762, 63, 763, 764, 765, 766, 33, 39, 767, 768, 769, 770, 35, 34, 771, 772, 773, 774, 775, 38, 776, 777, 778, 779, 780, 781, 782, 783, 309, 784, 785, 786, 787, 788, 789, 28, 343, 790, 791, 792, 619, 793, 636, 794, 795, 796, 797, 798, 799, 800, 801, 802, 803, 804, 805, 806, 73, 74, 807, 808, 809, 810, 20, 406, 407, 811, 812, 813, 814, 815, 246, 247, 248, 19, 249, 195, 55, 816, 817, 818, 819, 75, 820, 821, 822, 823, 824, 11, 12, 825, 826, 827, 828, 1057, 1058, 1059, 1060, 1061, 1062, 1063, 1064, 1065, 1066, 1067, 1068, 1069, 1070, 1071, 1072, 1150, 1151, 1152, 1153, 1167, 1168, 1169, 1170, 1171, 1172, 1173, 1174, 1175, 1176, 1187, 1188, 1189, 1190, 1191, 1192, 1156, 1157, 1158, 1159, 1160, 1203, 1204, 1205, 1206, 1193, 1194, 1195, 1196, 1197, 1198, 1199, 1200, 1201, 1202, 1154, 1155, 1148, 1149] rfl (by decide +kernel)) (goodIn_sub (fun _ h => List.mem_append_left _ (List.mem_append_left _ (List.mem_append_left _ (List.mem_append_left _ (List.mem_append_right _ h))))) (by decide +kernel))
set_option maxRecDepth 20000 in
theorem gL_law_L_days : GoodIn wsL_law (va_wsS RL 142 yL_days wsL_days) := goodIn_app (goodIn_of _ (by decide +kernel)) ggL_law_L_days
abbrev wsL_hd_X12_days : Cond := .code yX12_days cX12_days 3 (some .int)
set_option maxRecDepth 20000 in
theorem ggL_law_X12_days_0 : GoodIn wsL_law (wsL_hd_X12_days :: wsX12_days_r1) := goodIn_r _ [832, 159, 300, 220, 221, 5, 222, 833, 834, 835, 836, 301, 101, 94, 100, 102, 656, 837, 838, 839, 840, 219, 137, 122, 123] rfl (by decide +kernel)
set_option maxRecDepth 20000 in
theorem ggL_law_X12_days_1 : GoodIn wsL_law wsX12_days_r2 := goodIn_r _ [126, 131, 118, 103, 99, 127, 132, 128, 120, 125, 841, 133, 134, 135, 136, 842, 843, 844, 845, 124, 846, 847, 848, 849] rfl (by decide +kernel)
set_option maxRecDepth 20000 in
theorem ggL_law_X12_days_2 : GoodIn wsL_law wsX12_days_r3 := goodIn_r _ [91, 138] rfl (by decide +kernel)
set_option maxRecDepth 20000 in
theorem ggL_law_X12_days : GoodIn wsL_law wsX12_days := goodIn_ca (goodIn_ca ggL_law_X12_days_0 (goodIn_app ggL_law_X12_days_1 (ggL_law_X12_days_2))) (goodIn_sub inlX12 (by decide +kernel))
set_option maxRecDepth 20000 in
theorem gL_law_X12_days : GoodIn wsL_law (wsV RL 144 RX12 yX12_days wsX12_days) := goodIn_app (goodIn_of _ (by decide +kernel)) ggL_law_X12_days
set_option maxRecDepth 20000 in
theorem ggL_law_L_order : GoodIn wsL_law wsL_order := goodIn_ca (goodIn_ca (goodIn_r _ [852, 234, 511, 853, 854, 855, 2, 856, 516, 517, 789, 767, 857, 814, 858, 859, 860, 861, 862, 244, 245, 610, 33, 188, 189, 190, 863, 864, 865, 616, 866, 642, 625, 867, 791, 792, 619, 793, 636, 794, 795, 796, 1187, 1188, 1189, 1190, 1191, 1192, 1057, 1058, 1059, 1060, 1061, 1062, 1063, 1064, 1065, 1066, 1067, 1068, 1069, 1070, 1071, 1072, 1193, 1194, 1195, 1196, 1197, 1198, 1199, 1200, 1201, 1202] rfl (by decide +kernel)) (goodIn_sub (fun _ h => List.mem_append_left _ (List.mem_append_right _ h)) (by decide +kernel))) (goodIn_sub (fun _ h => List.mem_append_left _ (List.mem_append_left _ (List.mem_append_right _ h))) (by decide +kernel))
set_option maxRecDepth 20000 in
theorem gL_law_L_order : GoodIn wsL_law (va_wsS RL 145 yL_order wsL_order) := goodIn_app (goodIn_of _ (by decide +kernel)) ggL_law_L_order
set_option maxRecDepth 20000 in
theorem ggL_law_X12_order : GoodIn wsL_law wsX12_order := goodIn_r _ [871, 159, 122, 118, 119, 120, 121, 872, 873, 874, 5, 875, 656, 220, 221, 222, 842, 843, 844, 845, 124, 126, 127, 128, 1073, 1074, 1075, 1076, 1077, 1078, 1079, 1080, 1081, 1082, 1083, 1084, 1085, 1086, 1087, 1088, 1089, 1090, 1091, 1092, 1093, 1094, 1095, 1096, 1097, 1098, 1099, 1100, 1101, 1102, 1103, 1104, 1105, 1106, 1107, 1108, 1109, 1110, 1111, 1112, 1113, 1114, 1115, 1116, 1117, 1118, 1119, 1120, 1121, 1122, 1123, 1124, 1125, 1126, 1127, 1128, 1129, 1130, 1131, 1132, 1133, 1134, 1135, 1136, 1137, 1138, 1139, 1140, 1141, 1142, 1143] rfl (by decide +kernel)
set_option maxRecDepth 20000 in
theorem gL_law_X12_order : GoodIn wsL_law (wsV RL 147 RX12 yX12_order wsX12_order) := goodIn_app (goodIn_of _ (by decide +kernel)) ggL_law_X12_order
set_option maxRecDepth 20000 in
theorem ggL_law_L_want : GoodIn wsL_law wsL_want := goodIn_ca (goodIn_ca (goodIn_r _ [878, 234, 511, 879, 880, 881, 2, 882, 516, 517, 783, 407, 883, 815, 788, 811, 813, 884, 885, 801, 812, 859, 860, 861, 862, 244, 245, 610, 33, 188, 189, 190, 886, 887, 888, 767, 768, 1193, 1194, 1195, 1196, 1197, 1198, 1199, 1200, 1201, 1202, 1167, 1168, 1169, 1170, 1171, 1172, 1173, 1174, 1175, 1176, 1057, 1058, 1059, 1060, 1061, 1062, 1063, 1064, 1065, 1066, 1067, 1068, 1069, 1070, 1071, 1072, 1187, 1188, 1189, 1190, 1191, 1192] rfl (by decide +kernel)) (goodIn_sub (fun _ h => List.mem_append_left _ (List.mem_append_right _ h)) (by decide +kernel))) (goodIn_sub (fun _ h => List.mem_append_left _ (List.mem_append_left _ (List.mem_append_right _ h))) (by decide +kernel))
set_option maxRecDepth 20000 in
theorem gL_law_L_want : GoodIn wsL_law (va_wsS RL 148 yL_want wsL_want) := goodIn_app (goodIn_of _ (by decide +kernel)) ggL_law_L_want
