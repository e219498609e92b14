set_option maxRecDepth 20000 in
theorem ggL_law_X11_looked : GoodIn wsL_law wsX11_looked := goodIn_r _ [915, 18, 20, 906, 517, 907, 501, 502, 503, 17, 504, 487, 47, 518, 519, 2, 520, 103, 104, 105, 755, 756, 757, 758, 45, 759, 760, 761, 762, 48, 52, 674, 675, 678, 56, 301, 302, 303, 304, 305, 54, 306, 521, 522, 523, 524, 486, 525, 526, 527, 528, 529, 530, 531, 532, 533, 534, 125, 126, 127, 535, 536, 537, 538, 539, 432, 540, 541, 542, 543, 544, 545, 546, 547, 428, 548, 549, 550, 551, 552, 553, 554, 555, 55, 556, 141, 142, 557, 558, 559, 560, 561, 562, 563, 564, 565, 14, 566, 296, 36, 37, 567, 568, 569, 570, 38, 39, 571, 572, 573, 574, 575, 576, 577, 578, 579, 580, 581, 582, 583, 584, 585, 447, 586, 587, 588, 589, 590, 591, 592, 593, 594, 595, 596, 597, 598, 599, 600, 601, 602, 603, 604, 605, 606, 607, 441, 608, 609, 610, 611, 612, 613, 614, 615, 616, 444, 617, 618, 619, 620, 621, 622, 623, 624, 625, 626, 627, 628, 629, 630, 631, 632, 633, 634, 635, 636, 637, 638, 639, 640, 641, 642, 643, 644, 645, 646, 647, 648, 435, 649, 650, 651, 652, 653, 654, 655, 656, 657, 658, 659, 660, 661, 662, 663, 438, 664, 665, 666, 667, 668, 669, 670, 671, 672, 673, 676, 677, 679, 680, 681, 682, 683, 684, 685, 686, 1187, 1188, 1189, 1190, 1191, 1192, 1231, 1232, 1233, 1234, 1235, 1236, 1237, 1238, 1239, 1240, 1241, 1242, 1243, 1244, 1245, 1246, 1254, 1255, 1256, 1257, 1258, 1259, 1260, 1261, 1262, 1263, 1272, 1273, 1274, 1275, 1284, 1285, 1286, 1287, 1280, 1281, 1282, 1283, 1268, 1269, 1270, 1271, 1276, 1277, 1278, 1279, 1264, 1265, 1266, 1267, 1223, 1224, 1225, 1226, 1227, 1228, 1229, 1230] (by decide +kernel) (by decide +kernel)
set_option maxRecDepth 20000 in
theorem gL_law_X11_looked : GoodIn wsL_law (wsV RL 96 RX11 yX11_looked wsX11_looked) := goodIn_app (goodIn_of _ (by decide +kernel)) ggL_law_X11_looked
set_option maxRecDepth 20000 in
theorem ggL_law_X12_looked : GoodIn wsL_law wsX12_looked := goodIn_r _ [919, 84, 691, 509, 510, 511, 5, 512, 110, 111, 112, 692, 693, 694, 767, 768, 769, 770, 86, 695, 696, 697, 698, 699, 700, 701, 702, 703, 704, 705, 706, 707, 708, 709, 710, 414, 415, 416, 417, 418, 419, 420, 711, 712, 713, 714, 715, 716, 717, 718, 719, 93, 720, 90, 91, 92, 721, 722, 723, 724, 725, 87, 89, 726, 727, 728, 729, 730, 731, 732, 733, 734, 735, 736, 737, 738, 739, 740, 741, 771, 772, 773, 774, 1193, 1194, 1195, 1196, 1197, 1198, 1199, 1200, 1201, 1202, 1203, 1204, 1205, 1206, 1207, 1208, 1209, 1210, 1211, 1212, 1213, 1214, 1215, 1216, 1217, 1218, 1219, 1220, 1221, 1222] (by decide +kernel) (by decide +kernel)
set_option maxRecDepth 20000 in
theorem gL_law_X12_looked : GoodIn wsL_law (wsV RL 99 RX12 yX12_looked wsX12_looked) := goodIn_app (goodIn_of _ (by decide +kernel)) ggL_law_X12_looked
set_option maxRecDepth 20000 in
theorem ggL_law_X11_act : GoodIn wsL_law wsX11_act := goodIn_r _ [923, 28, 18, 924, 925, 926, 27, 927, 928, 929, 69, 930, 501, 502, 503, 17, 504, 487, 47, 931, 932, 933, 934, 935, 432, 936, 937, 938, 939, 428, 940, 458, 941, 942, 943, 944, 945, 946, 947, 948, 949, 573, 950, 951, 952, 953, 954, 955, 956, 957, 958, 959, 960, 961, 962, 963, 10, 11, 964, 965, 966, 967, 968, 969, 970, 971, 972, 973, 974, 975, 976, 977, 978, 979, 68, 980, 141, 126, 142, 981, 982, 983, 984, 985, 986, 987, 988, 989, 990, 991, 992, 993, 994, 995, 996, 997, 998, 999, 1000, 1001, 1002, 1003, 1004, 125, 127, 1005, 760, 761, 762, 1006, 1007, 1008, 1009, 1010, 1011, 1012, 444, 1013, 1014, 1015, 1016, 1017, 1018, 1019, 1020, 1021, 459, 1022, 1023, 1024, 1025, 1026, 1027, 1028, 1029, 447, 1030, 591, 592, 1031, 1032, 1033, 435, 1034, 1035, 1036, 1037, 1038, 1039, 1040, 1041, 1042, 1043, 1044, 1045, 1046, 1047, 441, 1048, 1049, 1050, 1051, 1052, 1053, 1054, 1055, 438, 1056, 1057, 1058, 1059, 1060, 1061, 1187, 1188, 1189, 1190, 1191, 1192, 1251, 1252, 1253, 1231, 1232, 1233, 1234, 1235, 1236, 1237, 1238, 1239, 1240, 1241, 1242, 1243, 1244, 1245, 1246, 1260, 1261, 1262, 1263, 1272, 1273, 1274, 1275, 1284, 1285, 1286, 1287, 1280, 1281, 1282, 1283, 1268, 1269, 1270, 1271, 1276, 1277, 1278, 1279, 1264, 1265, 1266, 1267, 1288] (by decide +kernel) (by decide +kernel)
set_option maxRecDepth 20000 in
theorem gL_law_X11_act : GoodIn wsL_law (wsV RL 100 RX11 yX11_act wsX11_act) := goodIn_app (goodIn_of _ (by decide +kernel)) ggL_law_X11_act
set_option maxRecDepth 20000 in
theorem ggL_law_X12_act : GoodIn wsL_law wsX12_act := goodIn_r _ [1065, 1066, 84, 1067, 1068, 1069, 509, 510, 511, 5, 512, 110, 111, 112, 1070, 1071, 1072, 1073, 1074, 1075, 1076, 1077, 1078, 1079, 1080, 96, 1081, 1082, 1083, 1084, 1085, 1086, 1087, 1088, 1089, 1090, 1091, 1092, 1093, 1094, 1095, 1096, 1097, 1098, 1099, 1100, 1193, 1194, 1195, 1196, 1197, 1198, 1199, 1200, 1201, 1202, 1203, 1204, 1205, 1206, 1207, 1208, 1209, 1210, 1211, 1212, 1213, 1214, 1215, 1216, 1217, 1218, 1219, 1220, 1221, 1222] (by decide +kernel) (by decide +kernel)
set_option maxRecDepth 20000 in
theorem gL_law_X12_act : GoodIn wsL_law (wsV RL 103 RX12 yX12_act wsX12_act) := goodIn_app (goodIn_of _ (by decide +kernel)) ggL_law_X12_act
set_option maxRecDepth 20000 in
theorem ggL_law_X11_trace : GoodIn wsL_law wsX11_trace := goodIn_r _ [1104, 28, 1105, 1106, 946, 1107, 27, 947, 930, 1108, 1109, 1110, 1111, 1112, 1113, 1114, 1115, 1116, 179, 180, 181, 1117, 1118, 1119, 1120, 69, 1121, 1122, 1123, 573, 1124, 958, 1187, 1188, 1189, 1190, 1191, 1192, 1251, 1252, 1253, 1288] (by decide +kernel) (by decide +kernel)
set_option maxRecDepth 20000 in
theorem gL_law_X11_trace : GoodIn wsL_law (wsV RL 104 RX11 yX11_trace wsX11_trace) := goodIn_app (goodIn_of _ (by decide +kernel)) ggL_law_X11_trace
set_option maxRecDepth 20000 in
theorem ggL_law_X12_trace : GoodIn wsL_law wsX12_trace := goodIn_r _ [1128, 1066, 96, 110, 111, 5, 112, 1193, 1194, 1195, 1196, 1197, 1198, 1199, 1200, 1201, 1202, 1203, 1204, 1205, 1206, 1207, 1208, 1209, 1210, 1211, 1212, 1213, 1214, 1215, 1216, 1217, 1218, 1219, 1220, 1221, 1222] (by decide +kernel) (by decide +kernel)
set_option maxRecDepth 20000 in
theorem gL_law_X12_trace : GoodIn wsL_law (wsV RL 107 RX12 yX12_trace wsX12_trace) := goodIn_app (goodIn_of _ (by decide +kernel)) ggL_law_X12_trace
set_option maxRecDepth 20000 in
theorem ggL_law_X11_as : GoodIn wsL_law wsX11_as := goodIn_r _ [1132, 18, 497, 501, 502, 503, 17, 504, 487, 47, 103, 104, 2, 105, 1133, 1134, 1135, 1136, 428, 1137, 1138, 1139, 1140, 1141, 1142, 1143, 1144, 1145, 1146, 1147, 1148, 1149, 1150, 1187, 1188, 1189, 1190, 1191, 1192, 1260, 1261, 1262, 1263, 1272, 1273, 1274, 1275, 1284, 1285, 1286, 1287, 1280, 1281, 1282, 1283, 1268, 1269, 1270, 1271, 1276, 1277, 1278, 1279, 1264, 1265, 1266, 1267, 1231, 1232, 1233, 1234, 1235, 1236, 1237, 1238, 1239, 1240, 1241, 1242, 1243, 1244, 1245, 1246] (by decide +kernel) (by decide +kernel)
set_option maxRecDepth 20000 in
theorem gL_law_X11_as : GoodIn wsL_law (wsV RL 108 RX11 yX11_as wsX11_as) := goodIn_app (goodIn_of _ (by decide +kernel)) ggL_law_X11_as
set_option maxRecDepth 20000 in
theorem ggL_law_X12_as : GoodIn wsL_law wsX12_as := goodIn_r _ [1154, 84, 509, 510, 511, 5, 512, 110, 111, 112, 1074, 1075, 1076, 1193, 1194, 1195, 1196, 1197, 1198, 1199, 1200, 1201, 1202, 1203, 1204, 1205, 1206, 1207, 1208, 1209, 1210, 1211, 1212, 1213, 1214, 1215, 1216, 1217, 1218, 1219, 1220, 1221, 1222] (by decide +kernel) (by decide +kernel)
set_option maxRecDepth 20000 in
theorem gL_law_X12_as : GoodIn wsL_law (wsV RL 111 RX12 yX12_as wsX12_as) := goodIn_app (goodIn_of _ (by decide +kernel)) ggL_law_X12_as
set_option maxRecDepth 20000 in
theorem ggL_law_X11_image : GoodIn wsL_law wsX11_image := goodIn_r _ [1158, 19, 18, 29, 425, 1159, 1160, 1161, 17, 1162, 50, 759, 760, 761, 762, 51, 1163, 1164, 1165, 756, 757, 758, 45, 47, 48, 487, 52, 674, 675, 678, 56, 301, 302, 303, 304, 305, 54, 306, 1187, 1188, 1189, 1190, 1191, 1192, 1231, 1232, 1233, 1234, 1235, 1236, 1237, 1238, 1239, 1240, 1241, 1242, 1243, 1244, 1245, 1246, 1254, 1255, 1256, 1257, 1258, 1259] (by decide +kernel) (by decide +kernel)
set_option maxRecDepth 20000 in
theorem gL_law_X11_image : GoodIn wsL_law (wsV RL 112 RX11 yX11_image wsX11_image) := goodIn_app (goodIn_of _ (by decide +kernel)) ggL_law_X11_image
set_option maxRecDepth 20000 in
theorem ggL_law_X12_image : GoodIn wsL_law wsX12_image := goodIn_r _ [1169, 85, 84, 1170, 1193, 1194, 1195, 1196, 1197, 1198, 1199, 1200, 1201, 1202, 1203, 1204, 1205, 1206, 1207, 1208, 1209, 1210, 1211, 1212, 1213, 1214, 1215, 1216, 1217, 1218, 1219, 1220, 1221, 1222] (by decide +kernel) (by decide +kernel)
set_option maxRecDepth 20000 in
theorem gL_law_X12_image : GoodIn wsL_law (wsV RL 115 RX12 yX12_image wsX12_image) := goodIn_app (goodIn_of _ (by decide +kernel)) ggL_law_X12_image
set_option maxRecDepth 20000 in
theorem ggL_law_X11_undo : GoodIn wsL_law wsX11_undo := goodIn_r _ [1174, 29, 18, 19, 425, 1159, 1160, 1161, 17, 1162, 50, 759, 760, 761, 762, 51, 1163, 1164, 1165, 756, 757, 758, 45, 47, 48, 487, 52, 674, 675, 678, 56, 301, 302, 303, 304, 305, 54, 306, 1187, 1188, 1189, 1190, 1191, 1192, 1231, 1232, 1233, 1234, 1235, 1236, 1237, 1238, 1239, 1240, 1241, 1242, 1243, 1244, 1245, 1246, 1254, 1255, 1256, 1257, 1258, 1259] (by decide +kernel) (by decide +kernel)
set_option maxRecDepth 20000 in
theorem gL_law_X11_undo : GoodIn wsL_law (wsV RL 116 RX11 yX11_undo wsX11_undo) := goodIn_app (goodIn_of _ (by decide +kernel)) ggL_law_X11_undo
set_option maxRecDepth 20000 in
theorem ggL_law_X12_undo : GoodIn wsL_law wsX12_undo := goodIn_r _ [1178, 1170, 84, 85, 93, 1193, 1194, 1195, 1196, 1197, 1198, 1199, 1200, 1201, 1202, 1203, 1204, 1205, 1206, 1207, 1208, 1209, 1210, 1211, 1212, 1213, 1214, 1215, 1216, 1217, 1218, 1219, 1220, 1221, 1222] (by decide +kernel) (by decide +kernel)
set_option maxRecDepth 20000 in
theorem gL_law_X12_undo : GoodIn wsL_law (wsV RL 119 RX12 yX12_undo wsX12_undo) := goodIn_app (goodIn_of _ (by decide +kernel)) ggL_law_X12_undo
set_option maxRecDepth 20000 in
theorem ggL_law_X11_count : GoodIn wsL_law wsX11_count := goodIn_r _ [1182, 18, 425, 117, 906, 101, 28, 1106, 946, 1107, 27, 947, 930, 1187, 1188, 1189, 1190, 1191, 1192, 1231, 1232, 1233, 1234, 1235, 1236, 1237, 1238, 1239, 1240, 1241, 1242, 1243, 1244, 1245, 1246, 1251, 1252, 1253] (by decide +kernel) (by decide +kernel)
set_option maxRecDepth 20000 in
theorem gL_law_X11_count : GoodIn wsL_law (wsV RL 120 RX11 yX11_count wsX11_count) := goodIn_app (goodIn_of _ (by decide +kernel)) ggL_law_X11_count
set_option maxRecDepth 20000 in
theorem ggL_law_X12_count : GoodIn wsL_law wsX12_count := goodIn_r _ [1186, 84, 1066, 1193, 1194, 1195, 1196, 1197, 1198, 1199, 1200, 1201, 1202, 1203, 1204, 1205, 1206, 1207, 1208, 1209, 1210, 1211, 1212, 1213, 1214, 1215, 1216, 1217, 1218, 1219, 1220, 1221, 1222] (by decide +kernel) (by decide +kernel)
set_option maxRecDepth 20000 in
theorem gL_law_X12_count : GoodIn wsL_law (wsV RL 123 RX12 yX12_count wsX12_count) := goodIn_app (goodIn_of _ (by decide +kernel)) ggL_law_X12_count
