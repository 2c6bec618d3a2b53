set_option maxRecDepth 100000 in
theorem xk_X6_cell : xMok xm_X6_cell := xMok_of (by decide +kernel) [] (by decide +kernel) [789, 162, 788] (by decide +kernel) (by decide +kernel)
set_option maxRecDepth 100000 in
theorem xk_X6_setAsNow : xMok xm_X6_setAsNow := xMok_of (by decide +kernel) [352, 351, 207, 355, 351, 220, 357, 359, 786, 351, 235, 351, 242, 359, 351, 238, 351, 240, 787, 351, 201, 361, 365] (by decide +kernel) [785, 162, 784, 21] (by decide +kernel) (by decide +kernel)
set_option maxRecDepth 100000 in
theorem xk_X6_starchBesides : xMok xm_X6_starchBesides := xMok_of (by decide +kernel) [359, 787] (by decide +kernel) [963, 162, 962, 39] (by decide +kernel) (by decide +kernel)
set_option maxRecDepth 100000 in
theorem xk_X6_playAsNow : xMok xm_X6_playAsNow := xMok_of (by decide +kernel) [782, 790] (by decide +kernel) [781, 162, 780, 20] (by decide +kernel) (by decide +kernel)
set_option maxRecDepth 100000 in
theorem xk_X6_playAll : xMok xm_X6_playAll := xMok_of (by decide +kernel) [351, 794, 795] (by decide +kernel) [793, 162, 792, 22] (by decide +kernel) (by decide +kernel)
set_option maxRecDepth 100000 in
theorem xk_X6_playThrough : xMok xm_X6_playThrough := xMok_of (by decide +kernel) [795] (by decide +kernel) [1278, 162, 1277, 78] (by decide +kernel) (by decide +kernel)
set_option maxRecDepth 100000 in
theorem xk_X6_playHour : xMok xm_X6_playHour := xMok_of (by decide +kernel) [351, 198, 799, 367, 787, 351, 218, 368, 369, 816] (by decide +kernel) [798, 162, 797, 23] (by decide +kernel) (by decide +kernel)
set_option maxRecDepth 100000 in
theorem xk_X6_arrive : xMok xm_X6_arrive := xMok_of (by decide +kernel) [370, 370, 352, 803, 807, 811, 812, 170, 813, 359, 787, 814, 600, 170, 601, 351, 815, 370] (by decide +kernel) [802, 162, 801, 24] (by decide +kernel) (by decide +kernel)
set_option maxRecDepth 100000 in
theorem xk_X6_besideAny : xMok xm_X6_besideAny := xMok_of (by decide +kernel) [351, 198, 357, 351, 198, 357, 357] (by decide +kernel) [819, 162, 818, 27] (by decide +kernel) (by decide +kernel)
set_option maxRecDepth 100000 in
theorem xk_X6_lossOf : xMok xm_X6_lossOf := xMok_of (by decide +kernel) [351, 213, 351, 230, 361, 369, 361, 351, 233, 355, 351, 226, 351, 226, 365] (by decide +kernel) [810, 162, 809, 26] (by decide +kernel) (by decide +kernel)
set_option maxRecDepth 100000 in
theorem xk_X6_lossAt : xMok xm_X6_lossAt := xMok_of (by decide +kernel) [803, 807] (by decide +kernel) [828, 162, 827, 28] (by decide +kernel) (by decide +kernel)
set_option maxRecDepth 100000 in
theorem xk_X6_stiffAt : xMok xm_X6_stiffAt := xMok_of (by decide +kernel) [367] (by decide +kernel) [806, 162, 805, 25] (by decide +kernel) (by decide +kernel)
set_option maxRecDepth 100000 in
theorem xk_X6_saggingAt : xMok xm_X6_saggingAt := xMok_of (by decide +kernel) [368] (by decide +kernel) [840, 162, 839, 30] (by decide +kernel) (by decide +kernel)
set_option maxRecDepth 100000 in
theorem xk_X6_standsAt : xMok xm_X6_standsAt := xMok_of (by decide +kernel) [368] (by decide +kernel) [852, 162, 851, 32] (by decide +kernel) (by decide +kernel)
set_option maxRecDepth 100000 in
theorem xk_X6_firstSag : xMok xm_X6_firstSag := xMok_of (by decide +kernel) [351, 794, 849] (by decide +kernel) [848, 162, 847, 31] (by decide +kernel) (by decide +kernel)
set_option maxRecDepth 100000 in
theorem xk_X6_hoursStood : xMok xm_X6_hoursStood := xMok_of (by decide +kernel) [351, 794, 849] (by decide +kernel) [860, 162, 859, 33] (by decide +kernel) (by decide +kernel)
set_option maxRecDepth 100000 in
theorem xk_X6_widestGap : xMok xm_X6_widestGap := xMok_of (by decide +kernel) [351, 198, 357, 849, 811, 812, 170, 813] (by decide +kernel) [876, 162, 875, 34] (by decide +kernel) (by decide +kernel)
set_option maxRecDepth 100000 in
theorem xk_X6_lineHolds : xMok xm_X6_lineHolds := xMok_of (by decide +kernel) [885, 351, 201] (by decide +kernel) [884, 162, 883, 35] (by decide +kernel) (by decide +kernel)
set_option maxRecDepth 100000 in
theorem xk_X6_hoursHeldOf : xMok xm_X6_hoursHeldOf := xMok_of (by decide +kernel) [795, 903] (by decide +kernel) [902, 162, 901, 38] (by decide +kernel) (by decide +kernel)
set_option maxRecDepth 100000 in
theorem xk_X6_hoursHeld : xMok xm_X6_hoursHeld := xMok_of (by decide +kernel) [351, 794, 899] (by decide +kernel) [898, 162, 897, 37] (by decide +kernel) (by decide +kernel)
set_option maxRecDepth 100000 in
theorem xk_X6_firstFall : xMok xm_X6_firstFall := xMok_of (by decide +kernel) [895, 351, 794] (by decide +kernel) [894, 162, 893, 36] (by decide +kernel) (by decide +kernel)
set_option maxRecDepth 100000 in
theorem xk_X6_standsThrough : xMok xm_X6_standsThrough := xMok_of (by decide +kernel) [795, 849] (by decide +kernel) [1005, 162, 1004, 44] (by decide +kernel) (by decide +kernel)
set_option maxRecDepth 100000 in
theorem xk_X7_init : xMok xm_X7_init := xMok_of (by decide +kernel) [479, 182, 183, 278, 492, 480, 481] (by decide +kernel) [478, 166, 477] (by decide +kernel) (by decide +kernel)
set_option maxRecDepth 100000 in
theorem xk_X7_isWithin : xMok xm_X7_isWithin := xMok_of (by decide +kernel) [] (by decide +kernel) [1160, 166, 1159] (by decide +kernel) (by decide +kernel)
set_option maxRecDepth 100000 in
theorem xk_X7_fitsPairs : xMok xm_X7_fitsPairs := xMok_of (by decide +kernel) [332, 335, 480, 1157, 1158, 335, 1158, 332] (by decide +kernel) [1156, 166, 1155, 63] (by decide +kernel) (by decide +kernel)
set_option maxRecDepth 100000 in
theorem xk_X7_fitsTriples : xMok xm_X7_fitsTriples := xMok_of (by decide +kernel) [332, 335, 480, 196, 1158, 335, 480, 1157, 1158, 335, 1158, 332] (by decide +kernel) [1211, 166, 1210, 68] (by decide +kernel) (by decide +kernel)
set_option maxRecDepth 100000 in
theorem xk_X7_weigh : xMok xm_X7_weigh := xMok_of (by decide +kernel) [482, 484, 486, 488, 490, 492, 1165, 481, 1166, 481, 353, 481, 1167, 1168, 1173] (by decide +kernel) [1164, 166, 1163, 64] (by decide +kernel) (by decide +kernel)
set_option maxRecDepth 100000 in
theorem xk_X7_agreesByPairs : xMok xm_X7_agreesByPairs := xMok_of (by decide +kernel) [332, 335, 481, 335, 1172] (by decide +kernel) [1171, 166, 1170, 65] (by decide +kernel) (by decide +kernel)
set_option maxRecDepth 100000 in
theorem xk_X7_note : xMok xm_X7_note := xMok_of (by decide +kernel) [482, 484, 482, 482, 486, 480, 1157, 481, 1172, 492, 481, 1177, 488, 488, 1178, 600, 170, 601, 488, 490, 1179, 812, 170, 813, 490] (by decide +kernel) [1176, 166, 1175, 66] (by decide +kernel) (by decide +kernel)
set_option maxRecDepth 100000 in
theorem xk_X7_bestQuestion : xMok xm_X7_bestQuestion := xMok_of (by decide +kernel) [482, 480, 1157, 492, 482, 492, 1179, 812, 170, 813] (by decide +kernel) [1195, 166, 1194, 67] (by decide +kernel) (by decide +kernel)
set_option maxRecDepth 100000 in
theorem xk_X7_lawsOf : xMok xm_X7_lawsOf := xMok_of (by decide +kernel) [481, 1166, 481, 362, 481, 1167, 1216] (by decide +kernel) [1215, 166, 1214, 69] (by decide +kernel) (by decide +kernel)
set_option maxRecDepth 100000 in
theorem xk_X7_agreesByTriples : xMok xm_X7_agreesByTriples := xMok_of (by decide +kernel) [332, 481, 335, 335, 1220, 335] (by decide +kernel) [1219, 166, 1218, 70] (by decide +kernel) (by decide +kernel)
set_option maxRecDepth 100000 in
theorem xk_X8_init : xMok xm_X8_init := xMok_of (by decide +kernel) [515, 182, 183, 516, 517] (by decide +kernel) [514, 167, 513] (by decide +kernel) (by decide +kernel)
set_option maxRecDepth 100000 in
theorem xk_X8_part : xMok xm_X8_part := xMok_of (by decide +kernel) [518, 519] (by decide +kernel) [1289, 167, 1288, 80] (by decide +kernel) (by decide +kernel)
set_option maxRecDepth 100000 in
theorem xk_X8_sum : xMok xm_X8_sum := xMok_of (by decide +kernel) [517, 1265, 518, 1266, 517, 364, 518, 1270, 518, 519, 519, 1281, 519, 1282] (by decide +kernel) [1264, 167, 1263, 75] (by decide +kernel) (by decide +kernel)
set_option maxRecDepth 100000 in
theorem xk_X8_weightOf : xMok xm_X8_weightOf := xMok_of (by decide +kernel) [516, 202, 516, 202] (by decide +kernel) [1269, 167, 1268, 76] (by decide +kernel) (by decide +kernel)
set_option maxRecDepth 100000 in
theorem xk_X8_valueOf : xMok xm_X8_valueOf := xMok_of (by decide +kernel) [517, 1274, 517, 1275, 517, 1279, 517, 1280] (by decide +kernel) [1273, 167, 1272, 77] (by decide +kernel) (by decide +kernel)
set_option maxRecDepth 100000 in
theorem xk_X8_reduce : xMok xm_X8_reduce := xMok_of (by decide +kernel) [519, 518, 518, 518, 519, 519] (by decide +kernel) [1285, 167, 1284, 79] (by decide +kernel) (by decide +kernel)
set_option maxRecDepth 100000 in
theorem xk_X8_drawDamp : xMok xm_X8_drawDamp := xMok_of (by decide +kernel) [516, 1338, 1339, 1340, 1341, 1342, 1281, 516, 202] (by decide +kernel) [1337, 167, 1336, 84] (by decide +kernel) (by decide +kernel)
set_option maxRecDepth 100000 in
theorem xk_X9_init : xMok xm_X9_init := xMok_of (by decide +kernel) [181, 182, 183, 277, 529, 184, 185, 159, 186, 531, 184, 185, 159, 186, 532, 279, 280, 160, 529, 281, 533, 184, 321, 184, 185, 159, 186, 184, 185, 159, 186, 184, 185, 159, 186, 534, 322, 323, 322, 324, 161, 325, 322, 324, 161, 325, 322, 324, 161, 325, 322, 324, 161, 325, 536, 345, 346, 162, 531, 347, 537, 395, 396, 163, 531, 537, 397, 538, 428, 429, 164, 531, 537, 430, 539, 452, 453, 165, 531, 537, 454, 540, 474, 475, 166, 531, 537, 476, 541, 510, 511, 167, 531, 537, 512, 542] (by decide +kernel) [180, 158, 179] (by decide +kernel) (by decide +kernel)
set_option maxRecDepth 100000 in
theorem xk_X9_feed : xMok xm_X9_feed := xMok_of (by decide +kernel) [530, 576, 576, 576, 576, 576, 530] (by decide +kernel) [575, 158, 573, 574] (by decide +kernel) (by decide +kernel)
set_option maxRecDepth 100000 in
theorem xk_X9_putFourBytes : xMok xm_X9_putFourBytes := xMok_of (by decide +kernel) [530, 529, 530, 530, 530] (by decide +kernel) [579, 158, 578, 0] (by decide +kernel) (by decide +kernel)
set_option maxRecDepth 100000 in
theorem xk_X9_end : xMok xm_X9_end := xMok_of (by decide +kernel) [530, 530] (by decide +kernel) [583, 158, 581, 582] (by decide +kernel) (by decide +kernel)
set_option maxRecDepth 100000 in
theorem xk_X9_garrison : xMok xm_X9_garrison := xMok_of (by decide +kernel) [533, 532, 530, 588, 531, 532, 727, 530, 531, 192] (by decide +kernel) [587, 158, 585, 586] (by decide +kernel) (by decide +kernel)
set_option maxRecDepth 100000 in
theorem xk_X9_fault : xMok xm_X9_fault := xMok_of (by decide +kernel) [533, 295, 533, 297] (by decide +kernel) [737, 158, 735, 736] (by decide +kernel) (by decide +kernel)
set_option maxRecDepth 100000 in
theorem xk_X9_man : xMok xm_X9_man := xMok_of (by decide +kernel) [531, 742, 531, 209, 531, 212, 531, 217, 531, 222] (by decide +kernel) [741, 158, 739, 740] (by decide +kernel) (by decide +kernel)
set_option maxRecDepth 100000 in
theorem xk_X9_rain : xMok xm_X9_rain := xMok_of (by decide +kernel) [531, 750, 531, 225] (by decide +kernel) [749, 158, 747, 748] (by decide +kernel) (by decide +kernel)
set_option maxRecDepth 100000 in
theorem xk_X9_heat : xMok xm_X9_heat := xMok_of (by decide +kernel) [531, 750, 531, 229] (by decide +kernel) [757, 158, 755, 756] (by decide +kernel) (by decide +kernel)
set_option maxRecDepth 100000 in
theorem xk_X9_frosts : xMok xm_X9_frosts := xMok_of (by decide +kernel) [531, 762, 531, 766, 531, 770] (by decide +kernel) [761, 158, 759, 760] (by decide +kernel) (by decide +kernel)
set_option maxRecDepth 100000 in
theorem xk_X9_stiff : xMok xm_X9_stiff := xMok_of (by decide +kernel) [531, 742, 531, 750, 537, 778, 537, 820] (by decide +kernel) [777, 158, 775, 776] (by decide +kernel) (by decide +kernel)
set_option maxRecDepth 100000 in
theorem xk_X9_loses : xMok xm_X9_loses := xMok_of (by decide +kernel) [531, 742, 531, 750, 537, 778, 537, 825] (by decide +kernel) [824, 158, 822, 823] (by decide +kernel) (by decide +kernel)
set_option maxRecDepth 100000 in
theorem xk_X9_stands : xMok xm_X9_stands := xMok_of (by decide +kernel) [531, 750, 537, 778, 531, 833, 537, 837] (by decide +kernel) [832, 158, 830, 831] (by decide +kernel) (by decide +kernel)
set_option maxRecDepth 100000 in
theorem xk_X9_gives : xMok xm_X9_gives := xMok_of (by decide +kernel) [531, 742, 537, 778, 537, 845] (by decide +kernel) [844, 158, 842, 843] (by decide +kernel) (by decide +kernel)
set_option maxRecDepth 100000 in
theorem xk_X9_hours : xMok xm_X9_hours := xMok_of (by decide +kernel) [531, 742, 537, 778, 537, 857] (by decide +kernel) [856, 158, 854, 855] (by decide +kernel) (by decide +kernel)
set_option maxRecDepth 100000 in
theorem xk_X9_cracks : xMok xm_X9_cracks := xMok_of (by decide +kernel) [531, 742, 537, 778, 537, 371] (by decide +kernel) [864, 158, 862, 863] (by decide +kernel) (by decide +kernel)
set_option maxRecDepth 100000 in
theorem xk_X9_broken : xMok xm_X9_broken := xMok_of (by decide +kernel) [531, 762, 537, 778, 531, 199, 537, 371] (by decide +kernel) [868, 158, 866, 867] (by decide +kernel) (by decide +kernel)
set_option maxRecDepth 100000 in
theorem xk_X9_gap : xMok xm_X9_gap := xMok_of (by decide +kernel) [531, 750, 537, 778, 537, 873] (by decide +kernel) [872, 158, 870, 871] (by decide +kernel) (by decide +kernel)
set_option maxRecDepth 100000 in
theorem xk_X9_holds : xMok xm_X9_holds := xMok_of (by decide +kernel) [531, 762, 537, 778, 531, 766, 537, 881] (by decide +kernel) [880, 158, 878, 879] (by decide +kernel) (by decide +kernel)
set_option maxRecDepth 100000 in
theorem xk_X9_falls : xMok xm_X9_falls := xMok_of (by decide +kernel) [531, 762, 537, 890, 537, 891] (by decide +kernel) [889, 158, 887, 888] (by decide +kernel) (by decide +kernel)
set_option maxRecDepth 100000 in
theorem xk_X9_weakest : xMok xm_X9_weakest := xMok_of (by decide +kernel) [531, 750, 537, 778, 531, 199, 537, 820, 537, 820] (by decide +kernel) [907, 158, 905, 906] (by decide +kernel) (by decide +kernel)
