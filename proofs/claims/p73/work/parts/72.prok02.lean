set_option maxRecDepth 100000 in
theorem xk_X9_all : xMok xm_X9_all := xMok_of (by decide +kernel) [531, 750, 537, 778, 531, 199, 537, 820] (by decide +kernel) [911, 158, 909, 910] (by decide +kernel) (by decide +kernel)
set_option maxRecDepth 100000 in
theorem xk_X9_spare : xMok xm_X9_spare := xMok_of (by decide +kernel) [531, 742, 531, 750, 537, 778, 537, 820, 531, 217] (by decide +kernel) [915, 158, 913, 914] (by decide +kernel) (by decide +kernel)
set_option maxRecDepth 100000 in
theorem xk_X9_stiffest : xMok xm_X9_stiffest := xMok_of (by decide +kernel) [531, 750, 537, 778, 531, 199, 537, 820, 537, 820] (by decide +kernel) [919, 158, 917, 918] (by decide +kernel) (by decide +kernel)
set_option maxRecDepth 100000 in
theorem xk_X9_sags : xMok xm_X9_sags := xMok_of (by decide +kernel) [531, 750, 537, 778, 537, 837] (by decide +kernel) [923, 158, 921, 922] (by decide +kernel) (by decide +kernel)
set_option maxRecDepth 100000 in
theorem xk_X9_spell : xMok xm_X9_spell := xMok_of (by decide +kernel) [531, 762, 537, 778, 531, 766, 537, 881, 928, 812, 170, 813] (by decide +kernel) [927, 158, 925, 926] (by decide +kernel) (by decide +kernel)
set_option maxRecDepth 100000 in
theorem xk_X9_rises : xMok xm_X9_rises := xMok_of (by decide +kernel) [531, 742, 537, 778, 531, 766, 537, 933, 537, 933] (by decide +kernel) [932, 158, 930, 931] (by decide +kernel) (by decide +kernel)
set_option maxRecDepth 100000 in
theorem xk_X9_lost : xMok xm_X9_lost := xMok_of (by decide +kernel) [531, 742, 537, 778, 531, 766, 537, 820, 537, 825, 938, 600, 170, 601] (by decide +kernel) [937, 158, 935, 936] (by decide +kernel) (by decide +kernel)
set_option maxRecDepth 100000 in
theorem xk_X9_dry : xMok xm_X9_dry := xMok_of (by decide +kernel) [531, 762, 531, 766, 531, 225, 531, 770] (by decide +kernel) [942, 158, 940, 941] (by decide +kernel) (by decide +kernel)
set_option maxRecDepth 100000 in
theorem xk_X9_drummer : xMok xm_X9_drummer := xMok_of (by decide +kernel) [531, 762, 537, 778, 531, 199, 537, 857] (by decide +kernel) [946, 158, 944, 945] (by decide +kernel) (by decide +kernel)
set_option maxRecDepth 100000 in
theorem xk_X9_bears : xMok xm_X9_bears := xMok_of (by decide +kernel) [531, 742, 537, 778, 531, 766, 537, 820, 938, 600, 170, 601] (by decide +kernel) [950, 158, 948, 949] (by decide +kernel) (by decide +kernel)
set_option maxRecDepth 100000 in
theorem xk_X9_boil : xMok xm_X9_boil := xMok_of (by decide +kernel) [531, 742, 537, 890, 537, 356, 531, 222, 537, 955, 537, 845] (by decide +kernel) [954, 158, 952, 953] (by decide +kernel) (by decide +kernel)
set_option maxRecDepth 100000 in
theorem xk_X9_gain : xMok xm_X9_gain := xMok_of (by decide +kernel) [531, 742, 531, 750, 537, 778, 537, 857, 537, 960, 537, 955, 537, 857] (by decide +kernel) [959, 158, 957, 958] (by decide +kernel) (by decide +kernel)
set_option maxRecDepth 100000 in
theorem xk_X9_helps : xMok xm_X9_helps := xMok_of (by decide +kernel) [531, 750, 537, 890, 537, 968, 531, 199, 537, 960, 537, 968, 537, 960] (by decide +kernel) [967, 158, 965, 966] (by decide +kernel) (by decide +kernel)
set_option maxRecDepth 100000 in
theorem xk_X9_stock : xMok xm_X9_stock := xMok_of (by decide +kernel) [531, 750, 531, 973] (by decide +kernel) [972, 158, 970, 971] (by decide +kernel) (by decide +kernel)
set_option maxRecDepth 100000 in
theorem xk_X9_eaten : xMok xm_X9_eaten := xMok_of (by decide +kernel) [531, 762, 531, 990] (by decide +kernel) [989, 158, 987, 988] (by decide +kernel) (by decide +kernel)
set_option maxRecDepth 100000 in
theorem xk_X9_empty : xMok xm_X9_empty := xMok_of (by decide +kernel) [531, 762, 531, 766, 531, 973] (by decide +kernel) [997, 158, 995, 996] (by decide +kernel) (by decide +kernel)
set_option maxRecDepth 100000 in
theorem xk_X9_wants : xMok xm_X9_wants := xMok_of (by decide +kernel) [531, 742, 531, 750, 537, 890, 537, 354, 537, 1002] (by decide +kernel) [1001, 158, 999, 1000] (by decide +kernel) (by decide +kernel)
set_option maxRecDepth 100000 in
theorem xk_X9_hold : xMok xm_X9_hold := xMok_of (by decide +kernel) [531, 762, 1010, 538, 1013, 538, 1043] (by decide +kernel) [1009, 158, 1007, 1008] (by decide +kernel) (by decide +kernel)
set_option maxRecDepth 100000 in
theorem xk_X9_isShared : xMok xm_X9_isShared := xMok_of (by decide +kernel) [] (by decide +kernel) [1012, 158, 1011] (by decide +kernel) (by decide +kernel)
set_option maxRecDepth 100000 in
theorem xk_X9_share : xMok xm_X9_share := xMok_of (by decide +kernel) [531, 742, 1010, 538, 1013, 538, 405] (by decide +kernel) [1050, 158, 1048, 1049] (by decide +kernel) (by decide +kernel)
set_option maxRecDepth 100000 in
theorem xk_X9_shares : xMok xm_X9_shares := xMok_of (by decide +kernel) [531, 762, 1010, 538, 1013, 538, 407] (by decide +kernel) [1054, 158, 1052, 1053] (by decide +kernel) (by decide +kernel)
set_option maxRecDepth 100000 in
theorem xk_X9_fewest : xMok xm_X9_fewest := xMok_of (by decide +kernel) [531, 750, 538, 1059] (by decide +kernel) [1058, 158, 1056, 1057] (by decide +kernel) (by decide +kernel)
set_option maxRecDepth 100000 in
theorem xk_X9_ordered : xMok xm_X9_ordered := xMok_of (by decide +kernel) [531, 762, 539, 1067, 539, 439] (by decide +kernel) [1066, 158, 1064, 1065] (by decide +kernel) (by decide +kernel)
set_option maxRecDepth 100000 in
theorem xk_X9_order : xMok xm_X9_order := xMok_of (by decide +kernel) [531, 742, 539, 1067, 539, 437] (by decide +kernel) [1085, 158, 1083, 1084] (by decide +kernel) (by decide +kernel)
set_option maxRecDepth 100000 in
theorem xk_X9_change : xMok xm_X9_change := xMok_of (by decide +kernel) [531, 762, 539, 1090] (by decide +kernel) [1089, 158, 1087, 1088] (by decide +kernel) (by decide +kernel)
set_option maxRecDepth 100000 in
theorem xk_X9_irons : xMok xm_X9_irons := xMok_of (by decide +kernel) [531, 742, 540, 1098, 540, 1125] (by decide +kernel) [1097, 158, 1095, 1096] (by decide +kernel) (by decide +kernel)
set_option maxRecDepth 100000 in
theorem xk_X9_ironed : xMok xm_X9_ironed := xMok_of (by decide +kernel) [531, 742, 540, 1098, 540, 1133] (by decide +kernel) [1132, 158, 1130, 1131] (by decide +kernel) (by decide +kernel)
set_option maxRecDepth 100000 in
theorem xk_X9_stiffs : xMok xm_X9_stiffs := xMok_of (by decide +kernel) [1142, 541, 483] (by decide +kernel) [1141, 158, 1139, 1140] (by decide +kernel) (by decide +kernel)
set_option maxRecDepth 100000 in
theorem xk_X9_sight : xMok xm_X9_sight := xMok_of (by decide +kernel) [1146, 531, 742, 536, 1149, 541, 536, 1153, 541, 536, 1161] (by decide +kernel) [1145, 158, 1144, 61] (by decide +kernel) (by decide +kernel)
set_option maxRecDepth 100000 in
theorem xk_X9_isSlot : xMok xm_X9_isSlot := xMok_of (by decide +kernel) [] (by decide +kernel) [1148, 158, 1147] (by decide +kernel) (by decide +kernel)
set_option maxRecDepth 100000 in
theorem xk_X9_least : xMok xm_X9_least := xMok_of (by decide +kernel) [1142, 541, 485] (by decide +kernel) [1183, 158, 1181, 1182] (by decide +kernel) (by decide +kernel)
set_option maxRecDepth 100000 in
theorem xk_X9_most : xMok xm_X9_most := xMok_of (by decide +kernel) [1142, 541, 487] (by decide +kernel) [1187, 158, 1185, 1186] (by decide +kernel) (by decide +kernel)
set_option maxRecDepth 100000 in
theorem xk_X9_ask : xMok xm_X9_ask := xMok_of (by decide +kernel) [1142, 541, 1192] (by decide +kernel) [1191, 158, 1189, 1190] (by decide +kernel) (by decide +kernel)
set_option maxRecDepth 100000 in
theorem xk_X9_soon : xMok xm_X9_soon := xMok_of (by decide +kernel) [1142, 541, 489] (by decide +kernel) [1199, 158, 1197, 1198] (by decide +kernel) (by decide +kernel)
set_option maxRecDepth 100000 in
theorem xk_X9_late : xMok xm_X9_late := xMok_of (by decide +kernel) [1142, 541, 491] (by decide +kernel) [1203, 158, 1201, 1202] (by decide +kernel) (by decide +kernel)
set_option maxRecDepth 100000 in
theorem xk_X9_laws : xMok xm_X9_laws := xMok_of (by decide +kernel) [1146, 531, 762, 536, 1149, 541, 536, 1208, 541, 536, 1212] (by decide +kernel) [1207, 158, 1205, 1206] (by decide +kernel) (by decide +kernel)
set_option maxRecDepth 100000 in
theorem xk_X9_by : xMok xm_X9_by := xMok_of (by decide +kernel) [531, 762, 537, 890, 537, 363, 537, 891] (by decide +kernel) [1224, 158, 1222, 1223] (by decide +kernel) (by decide +kernel)
set_option maxRecDepth 100000 in
theorem xk_X9_law : xMok xm_X9_law := xMok_of (by decide +kernel) [531, 762, 537, 890, 537, 363, 537, 968] (by decide +kernel) [1228, 158, 1226, 1227] (by decide +kernel) (by decide +kernel)
set_option maxRecDepth 100000 in
theorem xk_X9_rests : xMok xm_X9_rests := xMok_of (by decide +kernel) [1233, 1237, 1237] (by decide +kernel) [1232, 158, 1230, 1231] (by decide +kernel) (by decide +kernel)
set_option maxRecDepth 100000 in
theorem xk_X9_isPair : xMok xm_X9_isPair := xMok_of (by decide +kernel) [531, 742, 531, 742] (by decide +kernel) [1236, 158, 1235, 71] (by decide +kernel) (by decide +kernel)
set_option maxRecDepth 100000 in
theorem xk_X9_isContent : xMok xm_X9_isContent := xMok_of (by decide +kernel) [1241, 1241] (by decide +kernel) [1240, 158, 1239, 72] (by decide +kernel) (by decide +kernel)
set_option maxRecDepth 100000 in
theorem xk_X9_payOf : xMok xm_X9_payOf := xMok_of (by decide +kernel) [537, 890, 537, 960, 537, 960, 537, 955, 537, 857] (by decide +kernel) [1244, 158, 1243, 73] (by decide +kernel) (by decide +kernel)
set_option maxRecDepth 100000 in
theorem xk_X9_gets : xMok xm_X9_gets := xMok_of (by decide +kernel) [1233, 1249, 1249, 1241] (by decide +kernel) [1248, 158, 1246, 1247] (by decide +kernel) (by decide +kernel)
set_option maxRecDepth 100000 in
theorem xk_X9_isChoice : xMok xm_X9_isChoice := xMok_of (by decide +kernel) [] (by decide +kernel) [1251, 158, 1250] (by decide +kernel) (by decide +kernel)
set_option maxRecDepth 100000 in
theorem xk_X9_chance : xMok xm_X9_chance := xMok_of (by decide +kernel) [531, 742, 1256, 1249, 1260, 542, 1261, 542, 1286] (by decide +kernel) [1255, 158, 1253, 1254] (by decide +kernel) (by decide +kernel)
set_option maxRecDepth 100000 in
theorem xk_X9_isChanceHour : xMok xm_X9_isChanceHour := xMok_of (by decide +kernel) [531, 750] (by decide +kernel) [1259, 158, 1258, 74] (by decide +kernel) (by decide +kernel)
set_option maxRecDepth 100000 in
theorem xk_X9_line : xMok xm_X9_line := xMok_of (by decide +kernel) [1256, 1249, 1260, 542, 1261, 542, 1286] (by decide +kernel) [1293, 158, 1291, 1292] (by decide +kernel) (by decide +kernel)
set_option maxRecDepth 100000 in
theorem xk_X9_mean : xMok xm_X9_mean := xMok_of (by decide +kernel) [531, 742, 1256, 1249, 1260, 542, 1261, 542, 1286] (by decide +kernel) [1297, 158, 1295, 1296] (by decide +kernel) (by decide +kernel)
set_option maxRecDepth 100000 in
theorem xk_X9_starch : xMok xm_X9_starch := xMok_of (by decide +kernel) [531, 742, 531, 750, 531, 236, 531, 1302, 531, 1306, 531, 531, 236, 1310, 537, 778, 537, 820] (by decide +kernel) [1301, 158, 1299, 1300] (by decide +kernel) (by decide +kernel)
set_option maxRecDepth 100000 in
theorem xk_X9_iron : xMok xm_X9_iron := xMok_of (by decide +kernel) [531, 742, 531, 750, 531, 236, 531, 1302, 537, 778, 537, 820] (by decide +kernel) [1317, 158, 1315, 1316] (by decide +kernel) (by decide +kernel)
set_option maxRecDepth 100000 in
theorem xk_X9_undo : xMok xm_X9_undo := xMok_of (by decide +kernel) [531, 762, 531, 236, 531, 531, 236, 1310, 531, 236] (by decide +kernel) [1321, 158, 1319, 1320] (by decide +kernel) (by decide +kernel)
set_option maxRecDepth 100000 in
theorem xk_X9_anew : xMok xm_X9_anew := xMok_of (by decide +kernel) [531, 762, 531, 236, 531, 1310] (by decide +kernel) [1325, 158, 1323, 1324] (by decide +kernel) (by decide +kernel)
set_option maxRecDepth 100000 in
theorem xk_X9_drawn : xMok xm_X9_drawn := xMok_of (by decide +kernel) [531, 762, 1330, 1249, 542, 1334, 537, 890, 537, 366, 537, 891] (by decide +kernel) [1329, 158, 1327, 1328] (by decide +kernel) (by decide +kernel)
set_option maxRecDepth 100000 in
theorem xk_X9_isSeed : xMok xm_X9_isSeed := xMok_of (by decide +kernel) [1333] (by decide +kernel) [1332, 158, 1331] (by decide +kernel) (by decide +kernel)
set_option maxRecDepth 100000 in
theorem xk_X9_luck : xMok xm_X9_luck := xMok_of (by decide +kernel) [531, 742, 1330, 537, 890, 537, 542, 1334, 366, 537, 955, 537, 531, 766, 933] (by decide +kernel) [1346, 158, 1344, 1345] (by decide +kernel) (by decide +kernel)
set_option maxRecDepth 100000 in
theorem xk_X9_rate : xMok xm_X9_rate := xMok_of (by decide +kernel) [531, 742, 531, 236, 531, 217, 531, 1351] (by decide +kernel) [1350, 158, 1348, 1349] (by decide +kernel) (by decide +kernel)
set_option maxRecDepth 100000 in
theorem xk_X9_count : xMok xm_X9_count := xMok_of (by decide +kernel) [531, 204, 531, 199, 531, 236, 531, 192, 530, 1359] (by decide +kernel) [1358, 158, 1356, 1357] (by decide +kernel) (by decide +kernel)
set_option maxRecDepth 100000 in
theorem xk_X9_rowsThere : xMok xm_X9_rowsThere := xMok_of (by decide +kernel) [536, 1149] (by decide +kernel) [1362, 158, 1361, 86] (by decide +kernel) (by decide +kernel)
set_option maxRecDepth 100000 in
theorem xk_X9_image : xMok xm_X9_image := xMok_of (by decide +kernel) [534, 531, 727, 535, 535] (by decide +kernel) [1366, 158, 1364, 1365] (by decide +kernel) (by decide +kernel)
set_option maxRecDepth 100000 in
theorem xk_X9_back : xMok xm_X9_back := xMok_of (by decide +kernel) [535, 531, 534, 727] (by decide +kernel) [1370, 158, 1368, 1369] (by decide +kernel) (by decide +kernel)
