set_option maxRecDepth 100000 in
theorem xk_X0_init : xMok xm_X0_init := xMok_of (by decide +kernel) [457, 182, 183, 344, 460, 344, 461, 458, 459] (by decide +kernel) [456, 165, 455] (by decide +kernel) (by decide +kernel)
set_option maxRecDepth 100000 in
theorem xk_X0_search : xMok xm_X0_search := xMok_of (by decide +kernel) [459, 1102, 460, 1103, 1104, 460, 458, 206, 458, 1107, 461, 1103, 1104, 1108, 460, 461, 460, 461, 1103, 462, 462, 460, 1121, 1122, 170, 1123, 462] (by decide +kernel) [1101, 165, 1100, 56] (by decide +kernel) (by decide +kernel)
set_option maxRecDepth 100000 in
theorem xk_X0_passHour : xMok xm_X0_passHour := xMok_of (by decide +kernel) [459, 360, 1112, 460, 1103, 1113, 1124, 1113] (by decide +kernel) [1111, 165, 1110, 57] (by decide +kernel) (by decide +kernel)
set_option maxRecDepth 100000 in
theorem xk_X0_pass : xMok xm_X0_pass := xMok_of (by decide +kernel) [1117, 600, 170, 601, 458, 215, 458, 1118, 459, 1119, 1120, 812, 170, 813, 461, 461, 1121, 1122, 170, 1123] (by decide +kernel) [1116, 165, 1115, 58] (by decide +kernel) (by decide +kernel)
set_option maxRecDepth 100000 in
theorem xk_X0_fewestHours : xMok xm_X0_fewestHours := xMok_of (by decide +kernel) [462, 1103, 462] (by decide +kernel) [1128, 165, 1127, 59] (by decide +kernel) (by decide +kernel)
set_option maxRecDepth 100000 in
theorem xk_X0_leastSet : xMok xm_X0_leastSet := xMok_of (by decide +kernel) [462, 1103, 462, 1137] (by decide +kernel) [1136, 165, 1135, 60] (by decide +kernel) (by decide +kernel)
set_option maxRecDepth 100000 in
theorem xk_X1_init : xMok xm_X1_init := xMok_of (by decide +kernel) [433, 182, 183, 278, 436, 440, 434, 435] (by decide +kernel) [432, 164, 431] (by decide +kernel) (by decide +kernel)
set_option maxRecDepth 100000 in
theorem xk_X1_search : xMok xm_X1_search := xMok_of (by decide +kernel) [440, 434, 245, 434, 245, 440, 438, 435, 1071, 438, 434, 1072, 435, 1073, 438, 438, 435, 358, 436, 1074, 733, 732, 175, 435, 358, 1075] (by decide +kernel) [1070, 164, 1069, 53] (by decide +kernel) (by decide +kernel)
set_option maxRecDepth 100000 in
theorem xk_X1_advance : xMok xm_X1_advance := xMok_of (by decide +kernel) [434, 194, 434, 194, 1079, 434, 194, 1079] (by decide +kernel) [1078, 164, 1077, 54] (by decide +kernel) (by decide +kernel)
set_option maxRecDepth 100000 in
theorem xk_X1_swap : xMok xm_X1_swap := xMok_of (by decide +kernel) [] (by decide +kernel) [1081, 164, 1080] (by decide +kernel) (by decide +kernel)
set_option maxRecDepth 100000 in
theorem xk_X1_bestChange : xMok xm_X1_bestChange := xMok_of (by decide +kernel) [435, 1071, 435, 1073, 434, 194, 434, 194, 435, 358, 1079, 435, 1073, 435, 358, 1079] (by decide +kernel) [1093, 164, 1092, 55] (by decide +kernel) (by decide +kernel)
set_option maxRecDepth 100000 in
theorem xk_X2_init : xMok xm_X2_init := xMok_of (by decide +kernel) [189, 182, 183, 278, 200, 278, 205, 278, 210, 278, 214, 278, 219, 278, 223, 278, 227, 278, 231, 278, 237, 278, 239, 278, 241] (by decide +kernel) [188, 159, 187] (by decide +kernel) (by decide +kernel)
set_option maxRecDepth 100000 in
theorem xk_X2_clear : xMok xm_X2_clear := xMok_of (by decide +kernel) [243, 243, 190, 193, 234, 200, 596, 219, 596, 223, 596, 227, 596, 231, 596] (by decide +kernel) [595, 159, 594, 2] (by decide +kernel) (by decide +kernel)
set_option maxRecDepth 100000 in
theorem xk_X2_become : xMok xm_X2_become := xMok_of (by decide +kernel) [243, 243, 190, 190, 193, 193, 234, 234, 200, 200, 731, 733, 732, 175, 205, 205, 731, 733, 732, 175, 210, 210, 731, 733, 732, 175, 214, 214, 731, 733, 732, 175, 219, 219, 731, 733, 732, 175, 223, 223, 731, 733, 732, 175, 227, 227, 731, 733, 732, 175, 231, 231, 731, 733, 732, 175, 237, 237, 731, 733, 732, 175, 239, 239, 731, 733, 732, 175, 241, 241, 731, 733, 732, 175] (by decide +kernel) [730, 159, 729, 14] (by decide +kernel) (by decide +kernel)
set_option maxRecDepth 100000 in
theorem xk_X2_isTold : xMok xm_X2_isTold := xMok_of (by decide +kernel) [190] (by decide +kernel) [765, 159, 764, 17] (by decide +kernel) (by decide +kernel)
set_option maxRecDepth 100000 in
theorem xk_X2_isMan : xMok xm_X2_isMan := xMok_of (by decide +kernel) [193] (by decide +kernel) [745, 159, 744, 15] (by decide +kernel) (by decide +kernel)
set_option maxRecDepth 100000 in
theorem xk_X2_isHour : xMok xm_X2_isHour := xMok_of (by decide +kernel) [200] (by decide +kernel) [753, 159, 752, 16] (by decide +kernel) (by decide +kernel)
set_option maxRecDepth 100000 in
theorem xk_X2_hourCount : xMok xm_X2_hourCount := xMok_of (by decide +kernel) [200] (by decide +kernel) [769, 159, 768, 18] (by decide +kernel) (by decide +kernel)
set_option maxRecDepth 100000 in
theorem xk_X2_allMen : xMok xm_X2_allMen := xMok_of (by decide +kernel) [193] (by decide +kernel) [836, 159, 835, 29] (by decide +kernel) (by decide +kernel)
set_option maxRecDepth 100000 in
theorem xk_X2_isFrost : xMok xm_X2_isFrost := xMok_of (by decide +kernel) [231] (by decide +kernel) [773, 159, 772, 19] (by decide +kernel) (by decide +kernel)
set_option maxRecDepth 100000 in
theorem xk_X2_act : xMok xm_X2_act := xMok_of (by decide +kernel) [234, 243, 243, 237, 234, 239, 234, 241, 234, 234, 234] (by decide +kernel) [1305, 159, 1304, 81] (by decide +kernel) (by decide +kernel)
set_option maxRecDepth 100000 in
theorem xk_X2_keepActs : xMok xm_X2_keepActs := xMok_of (by decide +kernel) [243, 243, 234] (by decide +kernel) [1313, 159, 1312, 83] (by decide +kernel) (by decide +kernel)
set_option maxRecDepth 100000 in
theorem xk_X2_setNeeds : xMok xm_X2_setNeeds := xMok_of (by decide +kernel) [243, 243, 214] (by decide +kernel) [1354, 159, 1353, 85] (by decide +kernel) (by decide +kernel)
set_option maxRecDepth 100000 in
theorem xk_X2_packetsTaken : xMok xm_X2_packetsTaken := xMok_of (by decide +kernel) [234, 239, 241] (by decide +kernel) [980, 159, 979, 41] (by decide +kernel) (by decide +kernel)
set_option maxRecDepth 100000 in
theorem xk_X2_eatenOf : xMok xm_X2_eatenOf := xMok_of (by decide +kernel) [200, 985, 600, 170, 601] (by decide +kernel) [984, 159, 983, 42] (by decide +kernel) (by decide +kernel)
set_option maxRecDepth 100000 in
theorem xk_X2_packetsLeft : xMok xm_X2_packetsLeft := xMok_of (by decide +kernel) [200, 977, 981] (by decide +kernel) [976, 159, 975, 40] (by decide +kernel) (by decide +kernel)
set_option maxRecDepth 100000 in
theorem xk_X2_packetsEaten : xMok xm_X2_packetsEaten := xMok_of (by decide +kernel) [200, 200, 977, 981] (by decide +kernel) [993, 159, 992, 43] (by decide +kernel) (by decide +kernel)
set_option maxRecDepth 100000 in
theorem xk_X2_packetsSuffice : xMok xm_X2_packetsSuffice := xMok_of (by decide +kernel) [200, 200, 977, 981] (by decide +kernel) [1309, 159, 1308, 82] (by decide +kernel) (by decide +kernel)
set_option maxRecDepth 100000 in
theorem xk_X3_init : xMok xm_X3_init := xMok_of (by decide +kernel) [284, 182, 183, 296, 285] (by decide +kernel) [283, 160, 282] (by decide +kernel) (by decide +kernel)
set_option maxRecDepth 100000 in
theorem xk_X3_reads : xMok xm_X3_reads := xMok_of (by decide +kernel) [592, 285, 599, 600, 170, 601, 286, 287, 291, 292, 293, 294, 296, 602, 288, 615, 191, 191] (by decide +kernel) [591, 160, 590, 1] (by decide +kernel) (by decide +kernel)
set_option maxRecDepth 100000 in
theorem xk_X3_readsLine : xMok xm_X3_readsLine := xMok_of (by decide +kernel) [191, 620, 672, 689, 620, 195, 706, 689, 620, 291, 291, 291, 224, 715, 689, 620, 292, 292, 292, 228, 715, 689, 620, 293, 293, 293, 232, 719, 689, 689] (by decide +kernel) [618, 160, 617, 4] (by decide +kernel) (by decide +kernel)
set_option maxRecDepth 100000 in
theorem xk_X3_readsSettings : xMok xm_X3_readsSettings := xMok_of (by decide +kernel) [676, 685, 697, 203, 290, 602, 701] (by decide +kernel) [675, 160, 674, 6] (by decide +kernel) (by decide +kernel)
set_option maxRecDepth 100000 in
theorem xk_X3_settingName : xMok xm_X3_settingName := xMok_of (by decide +kernel) [] (by decide +kernel) [678, 160, 677] (by decide +kernel) (by decide +kernel)
set_option maxRecDepth 100000 in
theorem xk_X3_readsMan : xMok xm_X3_readsMan := xMok_of (by decide +kernel) [195, 685, 697, 208, 290, 685, 697, 211, 290, 685, 697, 216, 290, 602, 620, 221, 602, 195, 195, 701] (by decide +kernel) [709, 160, 708, 11] (by decide +kernel) (by decide +kernel)
set_option maxRecDepth 100000 in
theorem xk_X3_readsAmount : xMok xm_X3_readsAmount := xMok_of (by decide +kernel) [697, 290, 719] (by decide +kernel) [718, 160, 717, 12] (by decide +kernel) (by decide +kernel)
set_option maxRecDepth 100000 in
theorem xk_X3_readsHours : xMok xm_X3_readsHours := xMok_of (by decide +kernel) [685, 697, 290, 685, 697, 290, 602, 701] (by decide +kernel) [722, 160, 721, 13] (by decide +kernel) (by decide +kernel)
set_option maxRecDepth 100000 in
theorem xk_X3_takesWord : xMok xm_X3_takesWord := xMok_of (by decide +kernel) [602, 620, 689] (by decide +kernel) [688, 160, 687, 7] (by decide +kernel) (by decide +kernel)
set_option maxRecDepth 100000 in
theorem xk_X3_takesNumber : xMok xm_X3_takesNumber := xMok_of (by decide +kernel) [602, 288, 689, 290, 290, 689] (by decide +kernel) [700, 160, 699, 9] (by decide +kernel) (by decide +kernel)
set_option maxRecDepth 100000 in
theorem xk_X3_closesLine : xMok xm_X3_closesLine := xMok_of (by decide +kernel) [288, 689] (by decide +kernel) [704, 160, 703, 10] (by decide +kernel) (by decide +kernel)
set_option maxRecDepth 100000 in
theorem xk_X3_refuse : xMok xm_X3_refuse := xMok_of (by decide +kernel) [294, 289, 296] (by decide +kernel) [692, 160, 691, 8] (by decide +kernel) (by decide +kernel)
set_option maxRecDepth 100000 in
theorem xk_X3_takeToken : xMok xm_X3_takeToken := xMok_of (by decide +kernel) [287, 286, 285, 287, 606, 287, 287, 287, 289, 287, 286, 288, 285, 287, 609, 288, 287, 286, 285, 287, 609, 287, 287, 285, 287, 612, 288, 290, 287, 286, 285, 287, 612, 290, 285, 287, 599, 600, 170, 601, 290, 287, 287, 285, 287, 288, 287, 287] (by decide +kernel) [605, 160, 604, 3] (by decide +kernel) (by decide +kernel)
set_option maxRecDepth 100000 in
theorem xk_X3_isBlank : xMok xm_X3_isBlank := xMok_of (by decide +kernel) [] (by decide +kernel) [608, 160, 607] (by decide +kernel) (by decide +kernel)
set_option maxRecDepth 100000 in
theorem xk_X3_isLetter : xMok xm_X3_isLetter := xMok_of (by decide +kernel) [] (by decide +kernel) [611, 160, 610] (by decide +kernel) (by decide +kernel)
set_option maxRecDepth 100000 in
theorem xk_X3_isDigit : xMok xm_X3_isDigit := xMok_of (by decide +kernel) [] (by decide +kernel) [614, 160, 613] (by decide +kernel) (by decide +kernel)
set_option maxRecDepth 100000 in
theorem xk_X3_isWord : xMok xm_X3_isWord := xMok_of (by decide +kernel) [288, 287, 289, 285, 289] (by decide +kernel) [623, 160, 622, 5] (by decide +kernel) (by decide +kernel)
set_option maxRecDepth 100000 in
theorem xk_X4_init : xMok xm_X4_init := xMok_of (by decide +kernel) [328, 182, 183, 331, 344, 334] (by decide +kernel) [327, 161, 326] (by decide +kernel) (by decide +kernel)
set_option maxRecDepth 100000 in
theorem xk_X4_isThere : xMok xm_X4_isThere := xMok_of (by decide +kernel) [331] (by decide +kernel) [1152, 161, 1151, 62] (by decide +kernel) (by decide +kernel)
set_option maxRecDepth 100000 in
theorem xk_X4_make : xMok xm_X4_make := xMok_of (by decide +kernel) [329, 331, 334, 1379] (by decide +kernel) [1378, 161, 1377, 87] (by decide +kernel) (by decide +kernel)
set_option maxRecDepth 100000 in
theorem xk_X4_put : xMok xm_X4_put := xMok_of (by decide +kernel) [329, 334, 329, 334, 329, 334, 334] (by decide +kernel) [1387, 161, 1386, 88] (by decide +kernel) (by decide +kernel)
set_option maxRecDepth 100000 in
theorem xk_X4_reaches : xMok xm_X4_reaches := xMok_of (by decide +kernel) [331] (by decide +kernel) [1395, 161, 1394, 89] (by decide +kernel) (by decide +kernel)
set_option maxRecDepth 100000 in
theorem xk_X5_init : xMok xm_X5_init := xMok_of (by decide +kernel) [400, 182, 183, 278, 403, 278, 404, 409, 410, 401, 402] (by decide +kernel) [399, 163, 398] (by decide +kernel) (by decide +kernel)
set_option maxRecDepth 100000 in
theorem xk_X5_search : xMok xm_X5_search := xMok_of (by decide +kernel) [410, 401, 244, 409, 401, 244, 410, 409, 406, 408, 402, 1017, 1018, 401, 1023, 1024, 1034, 1039] (by decide +kernel) [1016, 163, 1015, 45] (by decide +kernel) (by decide +kernel)
set_option maxRecDepth 100000 in
theorem xk_X5_weigh : xMok xm_X5_weigh := xMok_of (by decide +kernel) [408, 408, 406, 403, 404, 1038, 733, 732, 175, 408, 406, 406] (by decide +kernel) [1037, 163, 1036, 49] (by decide +kernel) (by decide +kernel)
set_option maxRecDepth 100000 in
theorem xk_X5_lastHeld : xMok xm_X5_lastHeld := xMok_of (by decide +kernel) [406, 408] (by decide +kernel) [1046, 163, 1045, 51] (by decide +kernel) (by decide +kernel)
set_option maxRecDepth 100000 in
theorem xk_X5_holdsThrough : xMok xm_X5_holdsThrough := xMok_of (by decide +kernel) [402, 1017, 1018, 1024, 1039] (by decide +kernel) [1062, 163, 1061, 52] (by decide +kernel) (by decide +kernel)
set_option maxRecDepth 100000 in
theorem xk_X5_begin : xMok xm_X5_begin := xMok_of (by decide +kernel) [403, 1022, 401, 197, 403, 401, 197] (by decide +kernel) [1021, 163, 1020, 46] (by decide +kernel) (by decide +kernel)
set_option maxRecDepth 100000 in
theorem xk_X5_advance : xMok xm_X5_advance := xMok_of (by decide +kernel) [401, 197, 403, 403, 403, 403, 403, 401, 197] (by decide +kernel) [1042, 163, 1041, 50] (by decide +kernel) (by decide +kernel)
set_option maxRecDepth 100000 in
theorem xk_X5_heldBy : xMok xm_X5_heldBy := xMok_of (by decide +kernel) [1028, 402, 1033, 1028] (by decide +kernel) [1027, 163, 1026, 47] (by decide +kernel) (by decide +kernel)
set_option maxRecDepth 100000 in
theorem xk_X5_starchAll : xMok xm_X5_starchAll := xMok_of (by decide +kernel) [401, 197, 402, 403, 1032] (by decide +kernel) [1031, 163, 1030, 48] (by decide +kernel) (by decide +kernel)
set_option maxRecDepth 100000 in
theorem xk_X6_init : xMok xm_X6_init := xMok_of (by decide +kernel) [350, 182, 183, 278, 352, 278, 355, 278, 357, 278, 359, 278, 367, 278, 368, 278, 369, 278, 370, 351] (by decide +kernel) [349, 162, 348] (by decide +kernel) (by decide +kernel)
