/-! Contracts, printed by a program: part 35. -/
def kc1103 : xC := kAr 0 55 [(1, kS 29), (5, kB3), (1, kS 30), (1, kS 31), (3, kB3), (1, kS 32), (5, kB3), (1, kS 33), (1, kS 34), (3, kB3), (1, kS 35), (5, kB3), (1, kS 36), (1, kS 37), (3, kB3), (1, kS 38), (5, kB3), (1, kS 39), (1, kS 40), (3, kB3), (1, kS 41), (5, kB3), (1, kS 42), (1, kS 43), (1, kSc 3), (1, kS 44), (1, kB3)]
def xe_584_0 : xPt := ([kc1041, kc218, kc1103, kc1078], kb138, [([(45, (-1)), (3, 1)], 0), ([(45, 1), (4, (-1))], 0)], [], 25)
def xe_584_1 : xPt := ([kc1044, kc218, kc1103, kc536], kb139, [([(45, (-1)), (3, 1)], 0), ([(45, 1), (4, (-1))], 0)], [], 25)
def xe_584_2 : xPt := ([kc1046, kc218, kc1103, kc536], kb140, [([(45, (-1)), (3, 1)], 0), ([(45, 1), (4, (-1))], (-1))], [], 25)
def kc1104 : xC := kAr 0 120 [(119, kB 0 27), (1, kB 0 18)]
def kc1105 : xC := kAr 0 120 [(118, kB 0 27), (2, kB 0 18)]
def kc1106 : xC := kAr 0 120 [(117, kB 0 27), (3, kB 0 18)]
def kc1107 : xC := kAr 0 120 [(116, kB 0 27), (4, kB 0 18)]
def kc1108 : xC := kAr 0 120 [(115, kB 0 27), (5, kB 0 18)]
def kc1109 : xC := kAr 0 120 [(114, kB 0 27), (6, kB 0 18)]
def kc1110 : xC := kAr 0 120 [(113, kB 0 27), (7, kB 0 18)]
def kc1111 : xC := kAr 0 120 [(112, kB 0 27), (8, kB 0 18)]
def kc1112 : xC := kAr 0 120 [(111, kB 0 27), (9, kB 0 18)]
def kc1113 : xC := kAr 0 120 [(110, kB 0 27), (10, kB 0 18)]
def kc1114 : xC := kAr 0 120 [(109, kB 0 27), (11, kB 0 18)]
def kc1115 : xC := kAr 0 120 [(108, kB 0 27), (12, kB 0 18)]
def kc1116 : xC := kAr 0 120 [(107, kB 0 27), (13, kB 0 18)]
def kc1117 : xC := kAr 0 120 [(106, kB 0 27), (14, kB 0 18)]
def kc1118 : xC := kAr 0 120 [(105, kB 0 27), (15, kB 0 18)]
def kc1119 : xC := kAr 0 120 [(104, kB 0 27), (16, kB 0 18)]
def kc1120 : xC := kAr 0 120 [(103, kB 0 27), (17, kB 0 18)]
def kc1121 : xC := kAr 0 120 [(102, kB 0 27), (18, kB 0 18)]
def kc1122 : xC := kAr 0 120 [(101, kB 0 27), (19, kB 0 18)]
def kc1123 : xC := kAr 0 120 [(100, kB 0 27), (20, kB 0 18)]
def kc1124 : xC := kAr 0 120 [(99, kB 0 27), (21, kB 0 18)]
def kc1125 : xC := kAr 0 120 [(98, kB 0 27), (22, kB 0 18)]
def kc1126 : xC := kAr 0 120 [(97, kB 0 27), (23, kB 0 18)]
def kc1127 : xC := kAr 0 120 [(119, kB 0 27), (1, kB 1 27)]
def xq_584_0 : xCu := (29, [0, 1, 2, 3, 4, 5, 6], ([kc1049, kc218, kc1077, kc1104], kb142, [([(4, (-1)), (3, 1)], 0), ([(47, (-1)), (3, 1)], 0), ([(47, 1), (4, (-1))], (-1))], [kR 0, kR 3, kI 0, kI 1, kI 45, kI 46, kIc 23], 25), ([], 1))
def xq_584_1 : xCu := (29, [0, 1, 2, 3, 4, 5, 6], ([kc1049, kc218, kc1077, kc1105], kb143, [([(4, (-1)), (3, 1)], 0), ([(47, (-1)), (3, 1)], 0), ([(47, 1), (4, (-1))], (-1))], [kR 0, kR 3, kI 0, kI 1, kI 45, kI 46, kIc 22], 25), ([], 2))
def xq_584_2 : xCu := (29, [0, 1, 2, 3, 4, 5, 6], ([kc1049, kc218, kc1077, kc1106], kb144, [([(4, (-1)), (3, 1)], 0), ([(47, (-1)), (3, 1)], 0), ([(47, 1), (4, (-1))], (-1))], [kR 0, kR 3, kI 0, kI 1, kI 45, kI 46, kIc 21], 25), ([], 3))
def xq_584_3 : xCu := (29, [0, 1, 2, 3, 4, 5, 6], ([kc1049, kc218, kc1077, kc1107], kb145, [([(4, (-1)), (3, 1)], 0), ([(47, (-1)), (3, 1)], 0), ([(47, 1), (4, (-1))], (-1))], [kR 0, kR 3, kI 0, kI 1, kI 45, kI 46, kIc 20], 25), ([], 4))
def xq_584_4 : xCu := (29, [0, 1, 2, 3, 4, 5, 6], ([kc1049, kc218, kc1077, kc1108], kb146, [([(4, (-1)), (3, 1)], 0), ([(47, (-1)), (3, 1)], 0), ([(47, 1), (4, (-1))], (-1))], [kR 0, kR 3, kI 0, kI 1, kI 45, kI 46, kIc 19], 25), ([], 5))
def xq_584_5 : xCu := (29, [0, 1, 2, 3, 4, 5, 6], ([kc1049, kc218, kc1077, kc1109], kb147, [([(4, (-1)), (3, 1)], 0), ([(47, (-1)), (3, 1)], 0), ([(47, 1), (4, (-1))], (-1))], [kR 0, kR 3, kI 0, kI 1, kI 45, kI 46, kIc 18], 25), ([], 6))
def xq_584_6 : xCu := (29, [0, 1, 2, 3, 4, 5, 6], ([kc1049, kc218, kc1077, kc1110], kb148, [([(4, (-1)), (3, 1)], 0), ([(47, (-1)), (3, 1)], 0), ([(47, 1), (4, (-1))], (-1))], [kR 0, kR 3, kI 0, kI 1, kI 45, kI 46, kIc 17], 25), ([], 7))
def xq_584_7 : xCu := (29, [0, 1, 2, 3, 4, 5, 6], ([kc1049, kc218, kc1077, kc1111], kb149, [([(4, (-1)), (3, 1)], 0), ([(47, (-1)), (3, 1)], 0), ([(47, 1), (4, (-1))], (-1))], [kR 0, kR 3, kI 0, kI 1, kI 45, kI 46, kIc 16], 25), ([], 8))
def xq_584_8 : xCu := (29, [0, 1, 2, 3, 4, 5, 6], ([kc1049, kc218, kc1077, kc1112], kb150, [([(4, (-1)), (3, 1)], 0), ([(47, (-1)), (3, 1)], 0), ([(47, 1), (4, (-1))], (-1))], [kR 0, kR 3, kI 0, kI 1, kI 45, kI 46, kIc 15], 25), ([], 9))
def xq_584_9 : xCu := (29, [0, 1, 2, 3, 4, 5, 6], ([kc1049, kc218, kc1077, kc1113], kb151, [([(4, (-1)), (3, 1)], 0), ([(47, (-1)), (3, 1)], 0), ([(47, 1), (4, (-1))], (-1))], [kR 0, kR 3, kI 0, kI 1, kI 45, kI 46, kIc 14], 25), ([], 10))
def xq_584_10 : xCu := (29, [0, 1, 2, 3, 4, 5, 6], ([kc1049, kc218, kc1077, kc1114], kb152, [([(4, (-1)), (3, 1)], 0), ([(47, (-1)), (3, 1)], 0), ([(47, 1), (4, (-1))], (-1))], [kR 0, kR 3, kI 0, kI 1, kI 45, kI 46, kIc 13], 25), ([], 11))
def xq_584_11 : xCu := (29, [0, 1, 2, 3, 4, 5, 6], ([kc1049, kc218, kc1077, kc1115], kb153, [([(4, (-1)), (3, 1)], 0), ([(47, (-1)), (3, 1)], 0), ([(47, 1), (4, (-1))], (-1))], [kR 0, kR 3, kI 0, kI 1, kI 45, kI 46, kIc 12], 25), ([], 12))
def xq_584_12 : xCu := (29, [0, 1, 2, 3, 4, 5, 6], ([kc1049, kc218, kc1077, kc1116], kb154, [([(4, (-1)), (3, 1)], 0), ([(47, (-1)), (3, 1)], 0), ([(47, 1), (4, (-1))], (-1))], [kR 0, kR 3, kI 0, kI 1, kI 45, kI 46, kIc 11], 25), ([], 13))
def xq_584_13 : xCu := (29, [0, 1, 2, 3, 4, 5, 6], ([kc1049, kc218, kc1077, kc1117], kb155, [([(4, (-1)), (3, 1)], 0), ([(47, (-1)), (3, 1)], 0), ([(47, 1), (4, (-1))], (-1))], [kR 0, kR 3, kI 0, kI 1, kI 45, kI 46, kIc 10], 25), ([], 14))
def xq_584_14 : xCu := (29, [0, 1, 2, 3, 4, 5, 6], ([kc1049, kc218, kc1077, kc1118], kb156, [([(4, (-1)), (3, 1)], 0), ([(47, (-1)), (3, 1)], 0), ([(47, 1), (4, (-1))], (-1))], [kR 0, kR 3, kI 0, kI 1, kI 45, kI 46, kIc 9], 25), ([], 15))
def xq_584_15 : xCu := (29, [0, 1, 2, 3, 4, 5, 6], ([kc1049, kc218, kc1077, kc1119], kb157, [([(4, (-1)), (3, 1)], 0), ([(47, (-1)), (3, 1)], 0), ([(47, 1), (4, (-1))], (-1))], [kR 0, kR 3, kI 0, kI 1, kI 45, kI 46, kIc 8], 25), ([], 16))
def xq_584_16 : xCu := (29, [0, 1, 2, 3, 4, 5, 6], ([kc1049, kc218, kc1077, kc1120], kb158, [([(4, (-1)), (3, 1)], 0), ([(47, (-1)), (3, 1)], 0), ([(47, 1), (4, (-1))], (-1))], [kR 0, kR 3, kI 0, kI 1, kI 45, kI 46, kIc 7], 25), ([], 17))
def xq_584_17 : xCu := (29, [0, 1, 2, 3, 4, 5, 6], ([kc1049, kc218, kc1077, kc1121], kb159, [([(4, (-1)), (3, 1)], 0), ([(47, (-1)), (3, 1)], 0), ([(47, 1), (4, (-1))], (-1))], [kR 0, kR 3, kI 0, kI 1, kI 45, kI 46, kIc 6], 25), ([], 18))
def xq_584_18 : xCu := (29, [0, 1, 2, 3, 4, 5, 6], ([kc1049, kc218, kc1077, kc1122], kb160, [([(4, (-1)), (3, 1)], 0), ([(47, (-1)), (3, 1)], 0), ([(47, 1), (4, (-1))], (-1))], [kR 0, kR 3, kI 0, kI 1, kI 45, kI 46, kIc 5], 25), ([], 19))
def xq_584_19 : xCu := (29, [0, 1, 2, 3, 4, 5, 6], ([kc1049, kc218, kc1077, kc1123], kb161, [([(4, (-1)), (3, 1)], 0), ([(47, (-1)), (3, 1)], 0), ([(47, 1), (4, (-1))], (-1))], [kR 0, kR 3, kI 0, kI 1, kI 45, kI 46, kIc 4], 25), ([], 20))
def xq_584_20 : xCu := (29, [0, 1, 2, 3, 4, 5, 6], ([kc1049, kc218, kc1077, kc1124], kb162, [([(4, (-1)), (3, 1)], 0), ([(47, (-1)), (3, 1)], 0), ([(47, 1), (4, (-1))], (-1))], [kR 0, kR 3, kI 0, kI 1, kI 45, kI 46, kIc 3], 25), ([], 21))
def xq_584_21 : xCu := (29, [0, 1, 2, 3, 4, 5, 6], ([kc1049, kc218, kc1077, kc1125], kb163, [([(4, (-1)), (3, 1)], 0), ([(47, (-1)), (3, 1)], 0), ([(47, 1), (4, (-1))], (-1))], [kR 0, kR 3, kI 0, kI 1, kI 45, kI 46, kIc 2], 25), ([], 22))
def xq_584_22 : xCu := (29, [0, 1, 2, 3, 4, 5, 6], ([kc1049, kc218, kc1077, kc1126], kb164, [([(4, (-1)), (3, 1)], 0), ([(47, (-1)), (3, 1)], 0), ([(47, 1), (4, (-1))], (-1))], [kR 0, kR 3, kI 0, kI 1, kI 45, kI 46, kIc 1], 25), ([], 23))
def xq_584_23 : xCu := (29, [0, 1, 2, 3, 4, 5, 6], ([kc1073, kc218, kc1077, kc1078], kb165, [([(4, (-1)), (3, 1)], 0), ([(46, (-1)), (3, 1)], 0), ([(46, 1), (4, (-1))], (-1))], [kR 0, kR 3, kI 0, kI 1, kIc 0, kI 45, kIc 0], 25), ([], 24))
def xq_584_24 : xCu := (29, [0, 1, 2, 3, 4, 5, 6], ([kc1074, kc218, kc1077, kc1104], kb166, [([(4, (-1)), (3, 1)], 0), ([(47, (-1)), (3, 1)], 0), ([(47, 1), (4, (-1))], 0)], [kR 0, kR 3, kI 0, kI 1, kI 45, kI 46, kIc 23], 25), ([], 1))
def xq_584_25 : xCu := (29, [0, 1, 2, 3, 4, 5, 6], ([kc1074, kc218, kc1077, kc1105], kb167, [([(4, (-1)), (3, 1)], 0), ([(47, (-1)), (3, 1)], 0), ([(47, 1), (4, (-1))], 0)], [kR 0, kR 3, kI 0, kI 1, kI 45, kI 46, kIc 22], 25), ([], 2))
def xq_584_26 : xCu := (29, [0, 1, 2, 3, 4, 5, 6], ([kc1074, kc218, kc1077, kc1106], kb168, [([(4, (-1)), (3, 1)], 0), ([(47, (-1)), (3, 1)], 0), ([(47, 1), (4, (-1))], 0)], [kR 0, kR 3, kI 0, kI 1, kI 45, kI 46, kIc 21], 25), ([], 3))
def xq_584_27 : xCu := (29, [0, 1, 2, 3, 4, 5, 6], ([kc1074, kc218, kc1077, kc1107], kb169, [([(4, (-1)), (3, 1)], 0), ([(47, (-1)), (3, 1)], 0), ([(47, 1), (4, (-1))], 0)], [kR 0, kR 3, kI 0, kI 1, kI 45, kI 46, kIc 20], 25), ([], 4))
def xq_584_28 : xCu := (29, [0, 1, 2, 3, 4, 5, 6], ([kc1074, kc218, kc1077, kc1108], kb170, [([(4, (-1)), (3, 1)], 0), ([(47, (-1)), (3, 1)], 0), ([(47, 1), (4, (-1))], 0)], [kR 0, kR 3, kI 0, kI 1, kI 45, kI 46, kIc 19], 25), ([], 5))
def xq_584_29 : xCu := (29, [0, 1, 2, 3, 4, 5, 6], ([kc1074, kc218, kc1077, kc1109], kb171, [([(4, (-1)), (3, 1)], 0), ([(47, (-1)), (3, 1)], 0), ([(47, 1), (4, (-1))], 0)], [kR 0, kR 3, kI 0, kI 1, kI 45, kI 46, kIc 18], 25), ([], 6))
def xq_584_30 : xCu := (29, [0, 1, 2, 3, 4, 5, 6], ([kc1074, kc218, kc1077, kc1110], kb172, [([(4, (-1)), (3, 1)], 0), ([(47, (-1)), (3, 1)], 0), ([(47, 1), (4, (-1))], 0)], [kR 0, kR 3, kI 0, kI 1, kI 45, kI 46, kIc 17], 25), ([], 7))
def xq_584_31 : xCu := (29, [0, 1, 2, 3, 4, 5, 6], ([kc1074, kc218, kc1077, kc1111], kb173, [([(4, (-1)), (3, 1)], 0), ([(47, (-1)), (3, 1)], 0), ([(47, 1), (4, (-1))], 0)], [kR 0, kR 3, kI 0, kI 1, kI 45, kI 46, kIc 16], 25), ([], 8))
def xq_584_32 : xCu := (29, [0, 1, 2, 3, 4, 5, 6], ([kc1074, kc218, kc1077, kc1112], kb174, [([(4, (-1)), (3, 1)], 0), ([(47, (-1)), (3, 1)], 0), ([(47, 1), (4, (-1))], 0)], [kR 0, kR 3, kI 0, kI 1, kI 45, kI 46, kIc 15], 25), ([], 9))
def xq_584_33 : xCu := (29, [0, 1, 2, 3, 4, 5, 6], ([kc1074, kc218, kc1077, kc1113], kb175, [([(4, (-1)), (3, 1)], 0), ([(47, (-1)), (3, 1)], 0), ([(47, 1), (4, (-1))], 0)], [kR 0, kR 3, kI 0, kI 1, kI 45, kI 46, kIc 14], 25), ([], 10))
def xq_584_34 : xCu := (29, [0, 1, 2, 3, 4, 5, 6], ([kc1074, kc218, kc1077, kc1114], kb176, [([(4, (-1)), (3, 1)], 0), ([(47, (-1)), (3, 1)], 0), ([(47, 1), (4, (-1))], 0)], [kR 0, kR 3, kI 0, kI 1, kI 45, kI 46, kIc 13], 25), ([], 11))
def xq_584_35 : xCu := (29, [0, 1, 2, 3, 4, 5, 6], ([kc1074, kc218, kc1077, kc1115], kb177, [([(4, (-1)), (3, 1)], 0), ([(47, (-1)), (3, 1)], 0), ([(47, 1), (4, (-1))], 0)], [kR 0, kR 3, kI 0, kI 1, kI 45, kI 46, kIc 12], 25), ([], 12))
def xq_584_36 : xCu := (29, [0, 1, 2, 3, 4, 5, 6], ([kc1074, kc218, kc1077, kc1116], kb178, [([(4, (-1)), (3, 1)], 0), ([(47, (-1)), (3, 1)], 0), ([(47, 1), (4, (-1))], 0)], [kR 0, kR 3, kI 0, kI 1, kI 45, kI 46, kIc 11], 25), ([], 13))
def xq_584_37 : xCu := (29, [0, 1, 2, 3, 4, 5, 6], ([kc1074, kc218, kc1077, kc1117], kb179, [([(4, (-1)), (3, 1)], 0), ([(47, (-1)), (3, 1)], 0), ([(47, 1), (4, (-1))], 0)], [kR 0, kR 3, kI 0, kI 1, kI 45, kI 46, kIc 10], 25), ([], 14))
def xq_584_38 : xCu := (29, [0, 1, 2, 3, 4, 5, 6], ([kc1074, kc218, kc1077, kc1118], kb180, [([(4, (-1)), (3, 1)], 0), ([(47, (-1)), (3, 1)], 0), ([(47, 1), (4, (-1))], 0)], [kR 0, kR 3, kI 0, kI 1, kI 45, kI 46, kIc 9], 25), ([], 15))
def xq_584_39 : xCu := (29, [0, 1, 2, 3, 4, 5, 6], ([kc1074, kc218, kc1077, kc1119], kb181, [([(4, (-1)), (3, 1)], 0), ([(47, (-1)), (3, 1)], 0), ([(47, 1), (4, (-1))], 0)], [kR 0, kR 3, kI 0, kI 1, kI 45, kI 46, kIc 8], 25), ([], 16))
def xq_584_40 : xCu := (29, [0, 1, 2, 3, 4, 5, 6], ([kc1074, kc218, kc1077, kc1120], kb182, [([(4, (-1)), (3, 1)], 0), ([(47, (-1)), (3, 1)], 0), ([(47, 1), (4, (-1))], 0)], [kR 0, kR 3, kI 0, kI 1, kI 45, kI 46, kIc 7], 25), ([], 17))
def xq_584_41 : xCu := (29, [0, 1, 2, 3, 4, 5, 6], ([kc1074, kc218, kc1077, kc1121], kb183, [([(4, (-1)), (3, 1)], 0), ([(47, (-1)), (3, 1)], 0), ([(47, 1), (4, (-1))], 0)], [kR 0, kR 3, kI 0, kI 1, kI 45, kI 46, kIc 6], 25), ([], 18))
def xq_584_42 : xCu := (29, [0, 1, 2, 3, 4, 5, 6], ([kc1074, kc218, kc1077, kc1122], kb184, [([(4, (-1)), (3, 1)], 0), ([(47, (-1)), (3, 1)], 0), ([(47, 1), (4, (-1))], 0)], [kR 0, kR 3, kI 0, kI 1, kI 45, kI 46, kIc 5], 25), ([], 19))
def xq_584_43 : xCu := (29, [0, 1, 2, 3, 4, 5, 6], ([kc1074, kc218, kc1077, kc1123], kb185, [([(4, (-1)), (3, 1)], 0), ([(47, (-1)), (3, 1)], 0), ([(47, 1), (4, (-1))], 0)], [kR 0, kR 3, kI 0, kI 1, kI 45, kI 46, kIc 4], 25), ([], 20))
def xq_584_44 : xCu := (29, [0, 1, 2, 3, 4, 5, 6], ([kc1074, kc218, kc1077, kc1124], kb186, [([(4, (-1)), (3, 1)], 0), ([(47, (-1)), (3, 1)], 0), ([(47, 1), (4, (-1))], 0)], [kR 0, kR 3, kI 0, kI 1, kI 45, kI 46, kIc 3], 25), ([], 21))
def xq_584_45 : xCu := (29, [0, 1, 2, 3, 4, 5, 6], ([kc1074, kc218, kc1077, kc1125], kb187, [([(4, (-1)), (3, 1)], 0), ([(47, (-1)), (3, 1)], 0), ([(47, 1), (4, (-1))], 0)], [kR 0, kR 3, kI 0, kI 1, kI 45, kI 46, kIc 2], 25), ([], 22))
def xq_584_46 : xCu := (29, [0, 1, 2, 3, 4, 5, 6], ([kc1074, kc218, kc1077, kc1126], kb188, [([(4, (-1)), (3, 1)], 0), ([(47, (-1)), (3, 1)], 0), ([(47, 1), (4, (-1))], 0)], [kR 0, kR 3, kI 0, kI 1, kI 45, kI 46, kIc 1], 25), ([], 23))
def xq_584_47 : xCu := (29, [0, 1, 2, 3, 4, 5, 6], ([kc1075, kc218, kc1077, kc1078], kb189, [([(4, (-1)), (3, 1)], 0), ([(46, (-1)), (3, 1)], 0), ([(46, 1), (4, (-1))], 0)], [kR 0, kR 3, kI 0, kI 1, kIc 0, kI 45, kIc 0], 25), ([], 24))
def xq_584_48 : xCu := (29, [0, 1, 2, 3, 4, 5, 6], ([kc1041, kc218, kc1077, kc1078], kb138, [([(4, (-1)), (3, 1)], 0), ([(45, (-1)), (3, 1)], 0), ([(45, 1), (4, (-1))], 0)], [kR 0, kR 3, kI 0, kI 1, kIc 23, kIc 23, kIc 23], 25), ([], 1))
def xq_584_49 : xCu := (29, [0, 1, 2, 3, 4, 5, 6], ([kc1041, kc218, kc1077, kc1078], kb138, [([(4, (-1)), (3, 1)], 0), ([(45, (-1)), (3, 1)], 0), ([(45, 1), (4, (-1))], 0)], [kR 0, kR 3, kI 0, kI 1, kIc 22, kIc 22, kIc 22], 25), ([], 2))
def xq_584_50 : xCu := (29, [0, 1, 2, 3, 4, 5, 6], ([kc1041, kc218, kc1077, kc1078], kb138, [([(4, (-1)), (3, 1)], 0), ([(45, (-1)), (3, 1)], 0), ([(45, 1), (4, (-1))], 0)], [kR 0, kR 3, kI 0, kI 1, kIc 21, kIc 21, kIc 21], 25), ([], 3))
def xq_584_51 : xCu := (29, [0, 1, 2, 3, 4, 5, 6], ([kc1041, kc218, kc1077, kc1078], kb138, [([(4, (-1)), (3, 1)], 0), ([(45, (-1)), (3, 1)], 0), ([(45, 1), (4, (-1))], 0)], [kR 0, kR 3, kI 0, kI 1, kIc 20, kIc 20, kIc 20], 25), ([], 4))
def xq_584_52 : xCu := (29, [0, 1, 2, 3, 4, 5, 6], ([kc1041, kc218, kc1077, kc1078], kb138, [([(4, (-1)), (3, 1)], 0), ([(45, (-1)), (3, 1)], 0), ([(45, 1), (4, (-1))], 0)], [kR 0, kR 3, kI 0, kI 1, kIc 19, kIc 19, kIc 19], 25), ([], 5))
def xq_584_53 : xCu := (29, [0, 1, 2, 3, 4, 5, 6], ([kc1041, kc218, kc1077, kc1078], kb138, [([(4, (-1)), (3, 1)], 0), ([(45, (-1)), (3, 1)], 0), ([(45, 1), (4, (-1))], 0)], [kR 0, kR 3, kI 0, kI 1, kIc 18, kIc 18, kIc 18], 25), ([], 6))
def xq_584_54 : xCu := (29, [0, 1, 2, 3, 4, 5, 6], ([kc1041, kc218, kc1077, kc1078], kb138, [([(4, (-1)), (3, 1)], 0), ([(45, (-1)), (3, 1)], 0), ([(45, 1), (4, (-1))], 0)], [kR 0, kR 3, kI 0, kI 1, kIc 17, kIc 17, kIc 17], 25), ([], 7))
def xq_584_55 : xCu := (29, [0, 1, 2, 3, 4, 5, 6], ([kc1041, kc218, kc1077, kc1078], kb138, [([(4, (-1)), (3, 1)], 0), ([(45, (-1)), (3, 1)], 0), ([(45, 1), (4, (-1))], 0)], [kR 0, kR 3, kI 0, kI 1, kIc 16, kIc 16, kIc 16], 25), ([], 8))
def xq_584_56 : xCu := (29, [0, 1, 2, 3, 4, 5, 6], ([kc1041, kc218, kc1077, kc1078], kb138, [([(4, (-1)), (3, 1)], 0), ([(45, (-1)), (3, 1)], 0), ([(45, 1), (4, (-1))], 0)], [kR 0, kR 3, kI 0, kI 1, kIc 15, kIc 15, kIc 15], 25), ([], 9))
def xq_584_57 : xCu := (29, [0, 1, 2, 3, 4, 5, 6], ([kc1041, kc218, kc1077, kc1078], kb138, [([(4, (-1)), (3, 1)], 0), ([(45, (-1)), (3, 1)], 0), ([(45, 1), (4, (-1))], 0)], [kR 0, kR 3, kI 0, kI 1, kIc 14, kIc 14, kIc 14], 25), ([], 10))
def xq_584_58 : xCu := (29, [0, 1, 2, 3, 4, 5, 6], ([kc1041, kc218, kc1077, kc1078], kb138, [([(4, (-1)), (3, 1)], 0), ([(45, (-1)), (3, 1)], 0), ([(45, 1), (4, (-1))], 0)], [kR 0, kR 3, kI 0, kI 1, kIc 13, kIc 13, kIc 13], 25), ([], 11))
def xq_584_59 : xCu := (29, [0, 1, 2, 3, 4, 5, 6], ([kc1041, kc218, kc1077, kc1078], kb138, [([(4, (-1)), (3, 1)], 0), ([(45, (-1)), (3, 1)], 0), ([(45, 1), (4, (-1))], 0)], [kR 0, kR 3, kI 0, kI 1, kIc 12, kIc 12, kIc 12], 25), ([], 12))
def xq_584_60 : xCu := (29, [0, 1, 2, 3, 4, 5, 6], ([kc1041, kc218, kc1077, kc1078], kb138, [([(4, (-1)), (3, 1)], 0), ([(45, (-1)), (3, 1)], 0), ([(45, 1), (4, (-1))], 0)], [kR 0, kR 3, kI 0, kI 1, kIc 11, kIc 11, kIc 11], 25), ([], 13))
def xq_584_61 : xCu := (29, [0, 1, 2, 3, 4, 5, 6], ([kc1041, kc218, kc1077, kc1078], kb138, [([(4, (-1)), (3, 1)], 0), ([(45, (-1)), (3, 1)], 0), ([(45, 1), (4, (-1))], 0)], [kR 0, kR 3, kI 0, kI 1, kIc 10, kIc 10, kIc 10], 25), ([], 14))
def xq_584_62 : xCu := (29, [0, 1, 2, 3, 4, 5, 6], ([kc1041, kc218, kc1077, kc1078], kb138, [([(4, (-1)), (3, 1)], 0), ([(45, (-1)), (3, 1)], 0), ([(45, 1), (4, (-1))], 0)], [kR 0, kR 3, kI 0, kI 1, kIc 9, kIc 9, kIc 9], 25), ([], 15))
def xq_584_63 : xCu := (29, [0, 1, 2, 3, 4, 5, 6], ([kc1041, kc218, kc1077, kc1078], kb138, [([(4, (-1)), (3, 1)], 0), ([(45, (-1)), (3, 1)], 0), ([(45, 1), (4, (-1))], 0)], [kR 0, kR 3, kI 0, kI 1, kIc 8, kIc 8, kIc 8], 25), ([], 16))
def xq_584_64 : xCu := (29, [0, 1, 2, 3, 4, 5, 6], ([kc1041, kc218, kc1077, kc1078], kb138, [([(4, (-1)), (3, 1)], 0), ([(45, (-1)), (3, 1)], 0), ([(45, 1), (4, (-1))], 0)], [kR 0, kR 3, kI 0, kI 1, kIc 7, kIc 7, kIc 7], 25), ([], 17))
def xq_584_65 : xCu := (29, [0, 1, 2, 3, 4, 5, 6], ([kc1041, kc218, kc1077, kc1078], kb138, [([(4, (-1)), (3, 1)], 0), ([(45, (-1)), (3, 1)], 0), ([(45, 1), (4, (-1))], 0)], [kR 0, kR 3, kI 0, kI 1, kIc 6, kIc 6, kIc 6], 25), ([], 18))
def xq_584_66 : xCu := (29, [0, 1, 2, 3, 4, 5, 6], ([kc1041, kc218, kc1077, kc1078], kb138, [([(4, (-1)), (3, 1)], 0), ([(45, (-1)), (3, 1)], 0), ([(45, 1), (4, (-1))], 0)], [kR 0, kR 3, kI 0, kI 1, kIc 5, kIc 5, kIc 5], 25), ([], 19))
def xq_584_67 : xCu := (29, [0, 1, 2, 3, 4, 5, 6], ([kc1041, kc218, kc1077, kc1078], kb138, [([(4, (-1)), (3, 1)], 0), ([(45, (-1)), (3, 1)], 0), ([(45, 1), (4, (-1))], 0)], [kR 0, kR 3, kI 0, kI 1, kIc 4, kIc 4, kIc 4], 25), ([], 20))
def xq_584_68 : xCu := (29, [0, 1, 2, 3, 4, 5, 6], ([kc1041, kc218, kc1077, kc1078], kb138, [([(4, (-1)), (3, 1)], 0), ([(45, (-1)), (3, 1)], 0), ([(45, 1), (4, (-1))], 0)], [kR 0, kR 3, kI 0, kI 1, kIc 3, kIc 3, kIc 3], 25), ([], 21))
def xq_584_69 : xCu := (29, [0, 1, 2, 3, 4, 5, 6], ([kc1041, kc218, kc1077, kc1078], kb138, [([(4, (-1)), (3, 1)], 0), ([(45, (-1)), (3, 1)], 0), ([(45, 1), (4, (-1))], 0)], [kR 0, kR 3, kI 0, kI 1, kIc 2, kIc 2, kIc 2], 25), ([], 22))
def xq_584_70 : xCu := (29, [0, 1, 2, 3, 4, 5, 6], ([kc1041, kc218, kc1077, kc1078], kb138, [([(4, (-1)), (3, 1)], 0), ([(45, (-1)), (3, 1)], 0), ([(45, 1), (4, (-1))], 0)], [kR 0, kR 3, kI 0, kI 1, kIc 1, kIc 1, kIc 1], 25), ([], 23))
def xq_584_71 : xCu := (29, [0, 1, 2, 3, 4, 5, 6], ([kc1041, kc218, kc1077, kc1078], kb138, [([(4, (-1)), (3, 1)], 0), ([(45, (-1)), (3, 1)], 0), ([(45, 1), (4, (-1))], 0)], [kR 0, kR 3, kI 0, kI 1, kIc 0, kIc 0, kIc 0], 25), ([], 24))
def xq_584_72 : xCu := (29, [0, 1, 2, 3, 4, 5, 6], ([kc1073, kc218, kc1077, kc1127], kb165, [([(4, (-1)), (3, 1)], 0), ([(46, (-1)), (3, 1)], 0), ([(46, 1), (4, (-1))], (-1))], [kR 0, kR 3, kI 0, kI 1, kI 45, kIc 23, kIc 24], 25), ([], 0))
def xq_584_73 : xCu := (29, [0, 1, 2, 3, 4, 5, 6], ([kc1075, kc218, kc1077, kc1127], kb189, [([(4, (-1)), (3, 1)], 0), ([(46, (-1)), (3, 1)], 0), ([(46, 1), (4, (-1))], 0)], [kR 0, kR 3, kI 0, kI 1, kI 45, kIc 23, kIc 24], 25), ([], 0))
def xc_584 : xCt := (([kc1047, kc218, kc1077, kc1078], kb141, [([(4, (-1)), (3, 1)], 0)], [kR 0, kR 3, kI 0, kI 1], 25), [xe_584_0, xe_584_1, xe_584_2], 5)
def xu_584 : List xCu := [xq_584_0,
  xq_584_1,
  xq_584_2,
  xq_584_3,
  xq_584_4,
  xq_584_5,
  xq_584_6,
  xq_584_7,
  xq_584_8,
  xq_584_9,
  xq_584_10,
  xq_584_11,
  xq_584_12,
  xq_584_13,
  xq_584_14,
  xq_584_15,
  xq_584_16,
  xq_584_17,
  xq_584_18,
  xq_584_19,
  xq_584_20,
  xq_584_21,
  xq_584_22,
  xq_584_23,
  xq_584_24,
  xq_584_25,
  xq_584_26,
  xq_584_27,
  xq_584_28,
  xq_584_29,
  xq_584_30,
  xq_584_31,
  xq_584_32,
  xq_584_33,
  xq_584_34,
  xq_584_35,
  xq_584_36,
  xq_584_37,
  xq_584_38,
  xq_584_39,
  xq_584_40,
  xq_584_41,
  xq_584_42,
  xq_584_43,
  xq_584_44,
  xq_584_45,
  xq_584_46,
  xq_584_47,
  xq_584_48,
  xq_584_49,
  xq_584_50,
  xq_584_51,
  xq_584_52,
  xq_584_53,
  xq_584_54,
  xq_584_55,
  xq_584_56,
  xq_584_57,
  xq_584_58,
  xq_584_59,
  xq_584_60,
  xq_584_61,
  xq_584_62,
  xq_584_63,
  xq_584_64,
  xq_584_65,
  xq_584_66,
  xq_584_67,
  xq_584_68,
  xq_584_69,
  xq_584_70,
  xq_584_71,
  xq_584_72,
  xq_584_73]
def xT_584 : List (Nat × xCt) := [(201, xc_574)]
theorem xn_584 : Nat.ble (xsum xc_584.1.2.2.2.1) xm_X10_spanLine.nl = true := by decide +kernel
theorem xv_584_0 : xStP xT_584 xHt 100000 209 xm_X10_spanLine xc_584 xu_584 [] 0 18 = true := by
  rw [← zStP_eq]
  decide +kernel
theorem xv_584_18 : xStP xT_584 xHt 100000 209 xm_X10_spanLine xc_584 xu_584 [] 18 18 = true := by
  rw [← zStP_eq]
  decide +kernel
theorem xv_584_36 : xStP xT_584 xHt 100000 209 xm_X10_spanLine xc_584 xu_584 [] 36 18 = true := by
  rw [← zStP_eq]
  decide +kernel
theorem xv_584_54 : xStP xT_584 xHt 100000 209 xm_X10_spanLine xc_584 xu_584 [] 54 18 = true := by
  rw [← zStP_eq]
  decide +kernel
theorem xv_584_72 : xStP xT_584 xHt 100000 209 xm_X10_spanLine xc_584 xu_584 [] 72 18 = true := by
  rw [← zStP_eq]
  decide +kernel
theorem xv_584_90 : xStP xT_584 xHt 100000 209 xm_X10_spanLine xc_584 xu_584 [] 90 18 = true := by
  rw [← zStP_eq]
  decide +kernel
theorem xv_584_108 : xStP xT_584 xHt 100000 209 xm_X10_spanLine xc_584 xu_584 [] 108 18 = true := by
  rw [← zStP_eq]
  decide +kernel
theorem xv_584_126 : xStP xT_584 xHt 100000 209 xm_X10_spanLine xc_584 xu_584 [] 126 18 = true := by
  rw [← zStP_eq]
  decide +kernel
theorem xv_584_144 : xStP xT_584 xHt 100000 209 xm_X10_spanLine xc_584 xu_584 [] 144 18 = true := by
  rw [← zStP_eq]
  decide +kernel
theorem xz_584 : xStL xT_584 xHt 100000 209 xm_X10_spanLine xc_584 xu_584 162 = true := by
  rw [← zStL_eq]
  decide +kernel
theorem xw_584_0 : ((xu_584.drop 0).take 1).all (xVerCs xT_584 xHt 100000 209 xm_X10_spanLine xc_584 xu_584 [2] [72]) = true := by
  rw [← zVerCs_eq]
  decide +kernel
theorem xw_584_1 : ((xu_584.drop 1).take 1).all (xVerCs xT_584 xHt 100000 209 xm_X10_spanLine xc_584 xu_584 [2] [0]) = true := by
  rw [← zVerCs_eq]
  decide +kernel
theorem xw_584_2 : ((xu_584.drop 2).take 1).all (xVerCs xT_584 xHt 100000 209 xm_X10_spanLine xc_584 xu_584 [2] [1]) = true := by
  rw [← zVerCs_eq]
  decide +kernel
theorem xw_584_3 : ((xu_584.drop 3).take 1).all (xVerCs xT_584 xHt 100000 209 xm_X10_spanLine xc_584 xu_584 [2] [2]) = true := by
  rw [← zVerCs_eq]
  decide +kernel
theorem xw_584_4 : ((xu_584.drop 4).take 1).all (xVerCs xT_584 xHt 100000 209 xm_X10_spanLine xc_584 xu_584 [2] [3]) = true := by
  rw [← zVerCs_eq]
  decide +kernel
theorem xw_584_5 : ((xu_584.drop 5).take 1).all (xVerCs xT_584 xHt 100000 209 xm_X10_spanLine xc_584 xu_584 [2] [4]) = true := by
  rw [← zVerCs_eq]
  decide +kernel
theorem xw_584_6 : ((xu_584.drop 6).take 1).all (xVerCs xT_584 xHt 100000 209 xm_X10_spanLine xc_584 xu_584 [2] [5]) = true := by
  rw [← zVerCs_eq]
  decide +kernel
theorem xw_584_7 : ((xu_584.drop 7).take 1).all (xVerCs xT_584 xHt 100000 209 xm_X10_spanLine xc_584 xu_584 [2] [6]) = true := by
  rw [← zVerCs_eq]
  decide +kernel
theorem xw_584_8 : ((xu_584.drop 8).take 1).all (xVerCs xT_584 xHt 100000 209 xm_X10_spanLine xc_584 xu_584 [2] [7]) = true := by
  rw [← zVerCs_eq]
  decide +kernel
theorem xw_584_9 : ((xu_584.drop 9).take 1).all (xVerCs xT_584 xHt 100000 209 xm_X10_spanLine xc_584 xu_584 [2] [8]) = true := by
  rw [← zVerCs_eq]
  decide +kernel
theorem xw_584_10 : ((xu_584.drop 10).take 1).all (xVerCs xT_584 xHt 100000 209 xm_X10_spanLine xc_584 xu_584 [2] [9]) = true := by
  rw [← zVerCs_eq]
  decide +kernel
theorem xw_584_11 : ((xu_584.drop 11).take 1).all (xVerCs xT_584 xHt 100000 209 xm_X10_spanLine xc_584 xu_584 [2] [10]) = true := by
  rw [← zVerCs_eq]
  decide +kernel
theorem xw_584_12 : ((xu_584.drop 12).take 1).all (xVerCs xT_584 xHt 100000 209 xm_X10_spanLine xc_584 xu_584 [2] [11]) = true := by
  rw [← zVerCs_eq]
  decide +kernel
theorem xw_584_13 : ((xu_584.drop 13).take 1).all (xVerCs xT_584 xHt 100000 209 xm_X10_spanLine xc_584 xu_584 [2] [12]) = true := by
  rw [← zVerCs_eq]
  decide +kernel
theorem xw_584_14 : ((xu_584.drop 14).take 1).all (xVerCs xT_584 xHt 100000 209 xm_X10_spanLine xc_584 xu_584 [2] [13]) = true := by
  rw [← zVerCs_eq]
  decide +kernel
theorem xw_584_15 : ((xu_584.drop 15).take 1).all (xVerCs xT_584 xHt 100000 209 xm_X10_spanLine xc_584 xu_584 [2] [14]) = true := by
  rw [← zVerCs_eq]
  decide +kernel
theorem xw_584_16 : ((xu_584.drop 16).take 1).all (xVerCs xT_584 xHt 100000 209 xm_X10_spanLine xc_584 xu_584 [2] [15]) = true := by
  rw [← zVerCs_eq]
  decide +kernel
theorem xw_584_17 : ((xu_584.drop 17).take 1).all (xVerCs xT_584 xHt 100000 209 xm_X10_spanLine xc_584 xu_584 [2] [16]) = true := by
  rw [← zVerCs_eq]
  decide +kernel
theorem xw_584_18 : ((xu_584.drop 18).take 1).all (xVerCs xT_584 xHt 100000 209 xm_X10_spanLine xc_584 xu_584 [2] [17]) = true := by
  rw [← zVerCs_eq]
  decide +kernel
theorem xw_584_19 : ((xu_584.drop 19).take 1).all (xVerCs xT_584 xHt 100000 209 xm_X10_spanLine xc_584 xu_584 [2] [18]) = true := by
  rw [← zVerCs_eq]
  decide +kernel
theorem xw_584_20 : ((xu_584.drop 20).take 1).all (xVerCs xT_584 xHt 100000 209 xm_X10_spanLine xc_584 xu_584 [2] [19]) = true := by
  rw [← zVerCs_eq]
  decide +kernel
theorem xw_584_21 : ((xu_584.drop 21).take 1).all (xVerCs xT_584 xHt 100000 209 xm_X10_spanLine xc_584 xu_584 [2] [20]) = true := by
  rw [← zVerCs_eq]
  decide +kernel
theorem xw_584_22 : ((xu_584.drop 22).take 1).all (xVerCs xT_584 xHt 100000 209 xm_X10_spanLine xc_584 xu_584 [2] [21]) = true := by
  rw [← zVerCs_eq]
  decide +kernel
theorem xw_584_23 : ((xu_584.drop 23).take 1).all (xVerCs xT_584 xHt 100000 209 xm_X10_spanLine xc_584 xu_584 [] [22]) = true := by
  rw [← zVerCs_eq]
  decide +kernel
theorem xw_584_24 : ((xu_584.drop 24).take 1).all (xVerCs xT_584 xHt 100000 209 xm_X10_spanLine xc_584 xu_584 [1] [73]) = true := by
  rw [← zVerCs_eq]
  decide +kernel
theorem xw_584_25 : ((xu_584.drop 25).take 1).all (xVerCs xT_584 xHt 100000 209 xm_X10_spanLine xc_584 xu_584 [1] [24]) = true := by
  rw [← zVerCs_eq]
  decide +kernel
theorem xw_584_26 : ((xu_584.drop 26).take 1).all (xVerCs xT_584 xHt 100000 209 xm_X10_spanLine xc_584 xu_584 [1] [25]) = true := by
  rw [← zVerCs_eq]
  decide +kernel
theorem xw_584_27 : ((xu_584.drop 27).take 1).all (xVerCs xT_584 xHt 100000 209 xm_X10_spanLine xc_584 xu_584 [1] [26]) = true := by
  rw [← zVerCs_eq]
  decide +kernel
theorem xw_584_28 : ((xu_584.drop 28).take 1).all (xVerCs xT_584 xHt 100000 209 xm_X10_spanLine xc_584 xu_584 [1] [27]) = true := by
  rw [← zVerCs_eq]
  decide +kernel
theorem xw_584_29 : ((xu_584.drop 29).take 1).all (xVerCs xT_584 xHt 100000 209 xm_X10_spanLine xc_584 xu_584 [1] [28]) = true := by
  rw [← zVerCs_eq]
  decide +kernel
theorem xw_584_30 : ((xu_584.drop 30).take 1).all (xVerCs xT_584 xHt 100000 209 xm_X10_spanLine xc_584 xu_584 [1] [29]) = true := by
  rw [← zVerCs_eq]
  decide +kernel
theorem xw_584_31 : ((xu_584.drop 31).take 1).all (xVerCs xT_584 xHt 100000 209 xm_X10_spanLine xc_584 xu_584 [1] [30]) = true := by
  rw [← zVerCs_eq]
  decide +kernel
theorem xw_584_32 : ((xu_584.drop 32).take 1).all (xVerCs xT_584 xHt 100000 209 xm_X10_spanLine xc_584 xu_584 [1] [31]) = true := by
  rw [← zVerCs_eq]
  decide +kernel
theorem xw_584_33 : ((xu_584.drop 33).take 1).all (xVerCs xT_584 xHt 100000 209 xm_X10_spanLine xc_584 xu_584 [1] [32]) = true := by
  rw [← zVerCs_eq]
  decide +kernel
theorem xw_584_34 : ((xu_584.drop 34).take 1).all (xVerCs xT_584 xHt 100000 209 xm_X10_spanLine xc_584 xu_584 [1] [33]) = true := by
  rw [← zVerCs_eq]
  decide +kernel
theorem xw_584_35 : ((xu_584.drop 35).take 1).all (xVerCs xT_584 xHt 100000 209 xm_X10_spanLine xc_584 xu_584 [1] [34]) = true := by
  rw [← zVerCs_eq]
  decide +kernel
theorem xw_584_36 : ((xu_584.drop 36).take 1).all (xVerCs xT_584 xHt 100000 209 xm_X10_spanLine xc_584 xu_584 [1] [35]) = true := by
  rw [← zVerCs_eq]
  decide +kernel
theorem xw_584_37 : ((xu_584.drop 37).take 1).all (xVerCs xT_584 xHt 100000 209 xm_X10_spanLine xc_584 xu_584 [1] [36]) = true := by
  rw [← zVerCs_eq]
  decide +kernel
theorem xw_584_38 : ((xu_584.drop 38).take 1).all (xVerCs xT_584 xHt 100000 209 xm_X10_spanLine xc_584 xu_584 [1] [37]) = true := by
  rw [← zVerCs_eq]
  decide +kernel
theorem xw_584_39 : ((xu_584.drop 39).take 1).all (xVerCs xT_584 xHt 100000 209 xm_X10_spanLine xc_584 xu_584 [1] [38]) = true := by
  rw [← zVerCs_eq]
  decide +kernel
theorem xw_584_40 : ((xu_584.drop 40).take 1).all (xVerCs xT_584 xHt 100000 209 xm_X10_spanLine xc_584 xu_584 [1] [39]) = true := by
  rw [← zVerCs_eq]
  decide +kernel
theorem xw_584_41 : ((xu_584.drop 41).take 1).all (xVerCs xT_584 xHt 100000 209 xm_X10_spanLine xc_584 xu_584 [1] [40]) = true := by
  rw [← zVerCs_eq]
  decide +kernel
theorem xw_584_42 : ((xu_584.drop 42).take 1).all (xVerCs xT_584 xHt 100000 209 xm_X10_spanLine xc_584 xu_584 [1] [41]) = true := by
  rw [← zVerCs_eq]
  decide +kernel
theorem xw_584_43 : ((xu_584.drop 43).take 1).all (xVerCs xT_584 xHt 100000 209 xm_X10_spanLine xc_584 xu_584 [1] [42]) = true := by
  rw [← zVerCs_eq]
  decide +kernel
theorem xw_584_44 : ((xu_584.drop 44).take 1).all (xVerCs xT_584 xHt 100000 209 xm_X10_spanLine xc_584 xu_584 [1] [43]) = true := by
  rw [← zVerCs_eq]
  decide +kernel
theorem xw_584_45 : ((xu_584.drop 45).take 1).all (xVerCs xT_584 xHt 100000 209 xm_X10_spanLine xc_584 xu_584 [1] [44]) = true := by
  rw [← zVerCs_eq]
  decide +kernel
theorem xw_584_46 : ((xu_584.drop 46).take 1).all (xVerCs xT_584 xHt 100000 209 xm_X10_spanLine xc_584 xu_584 [1] [45]) = true := by
  rw [← zVerCs_eq]
  decide +kernel
theorem xw_584_47 : ((xu_584.drop 47).take 1).all (xVerCs xT_584 xHt 100000 209 xm_X10_spanLine xc_584 xu_584 [] [46]) = true := by
  rw [← zVerCs_eq]
  decide +kernel
theorem xw_584_48 : ((xu_584.drop 48).take 1).all (xVerCs xT_584 xHt 100000 209 xm_X10_spanLine xc_584 xu_584 [0] []) = true := by
  rw [← zVerCs_eq]
  decide +kernel
theorem xw_584_49 : ((xu_584.drop 49).take 1).all (xVerCs xT_584 xHt 100000 209 xm_X10_spanLine xc_584 xu_584 [0] []) = true := by
  rw [← zVerCs_eq]
  decide +kernel
theorem xw_584_50 : ((xu_584.drop 50).take 1).all (xVerCs xT_584 xHt 100000 209 xm_X10_spanLine xc_584 xu_584 [0] []) = true := by
  rw [← zVerCs_eq]
  decide +kernel
theorem xw_584_51 : ((xu_584.drop 51).take 1).all (xVerCs xT_584 xHt 100000 209 xm_X10_spanLine xc_584 xu_584 [0] []) = true := by
  rw [← zVerCs_eq]
  decide +kernel
theorem xw_584_52 : ((xu_584.drop 52).take 1).all (xVerCs xT_584 xHt 100000 209 xm_X10_spanLine xc_584 xu_584 [0] []) = true := by
  rw [← zVerCs_eq]
  decide +kernel
theorem xw_584_53 : ((xu_584.drop 53).take 1).all (xVerCs xT_584 xHt 100000 209 xm_X10_spanLine xc_584 xu_584 [0] []) = true := by
  rw [← zVerCs_eq]
  decide +kernel
theorem xw_584_54 : ((xu_584.drop 54).take 1).all (xVerCs xT_584 xHt 100000 209 xm_X10_spanLine xc_584 xu_584 [0] []) = true := by
  rw [← zVerCs_eq]
  decide +kernel
theorem xw_584_55 : ((xu_584.drop 55).take 1).all (xVerCs xT_584 xHt 100000 209 xm_X10_spanLine xc_584 xu_584 [0] []) = true := by
  rw [← zVerCs_eq]
  decide +kernel
theorem xw_584_56 : ((xu_584.drop 56).take 1).all (xVerCs xT_584 xHt 100000 209 xm_X10_spanLine xc_584 xu_584 [0] []) = true := by
  rw [← zVerCs_eq]
  decide +kernel
theorem xw_584_57 : ((xu_584.drop 57).take 1).all (xVerCs xT_584 xHt 100000 209 xm_X10_spanLine xc_584 xu_584 [0] []) = true := by
  rw [← zVerCs_eq]
  decide +kernel
theorem xw_584_58 : ((xu_584.drop 58).take 1).all (xVerCs xT_584 xHt 100000 209 xm_X10_spanLine xc_584 xu_584 [0] []) = true := by
  rw [← zVerCs_eq]
  decide +kernel
theorem xw_584_59 : ((xu_584.drop 59).take 1).all (xVerCs xT_584 xHt 100000 209 xm_X10_spanLine xc_584 xu_584 [0] []) = true := by
  rw [← zVerCs_eq]
  decide +kernel
theorem xw_584_60 : ((xu_584.drop 60).take 1).all (xVerCs xT_584 xHt 100000 209 xm_X10_spanLine xc_584 xu_584 [0] []) = true := by
  rw [← zVerCs_eq]
  decide +kernel
theorem xw_584_61 : ((xu_584.drop 61).take 1).all (xVerCs xT_584 xHt 100000 209 xm_X10_spanLine xc_584 xu_584 [0] []) = true := by
  rw [← zVerCs_eq]
  decide +kernel
theorem xw_584_62 : ((xu_584.drop 62).take 1).all (xVerCs xT_584 xHt 100000 209 xm_X10_spanLine xc_584 xu_584 [0] []) = true := by
  rw [← zVerCs_eq]
  decide +kernel
theorem xw_584_63 : ((xu_584.drop 63).take 1).all (xVerCs xT_584 xHt 100000 209 xm_X10_spanLine xc_584 xu_584 [0] []) = true := by
  rw [← zVerCs_eq]
  decide +kernel
theorem xw_584_64 : ((xu_584.drop 64).take 1).all (xVerCs xT_584 xHt 100000 209 xm_X10_spanLine xc_584 xu_584 [0] []) = true := by
  rw [← zVerCs_eq]
  decide +kernel
theorem xw_584_65 : ((xu_584.drop 65).take 1).all (xVerCs xT_584 xHt 100000 209 xm_X10_spanLine xc_584 xu_584 [0] []) = true := by
  rw [← zVerCs_eq]
  decide +kernel
theorem xw_584_66 : ((xu_584.drop 66).take 1).all (xVerCs xT_584 xHt 100000 209 xm_X10_spanLine xc_584 xu_584 [0] []) = true := by
  rw [← zVerCs_eq]
  decide +kernel
theorem xw_584_67 : ((xu_584.drop 67).take 1).all (xVerCs xT_584 xHt 100000 209 xm_X10_spanLine xc_584 xu_584 [0] []) = true := by
  rw [← zVerCs_eq]
  decide +kernel
theorem xw_584_68 : ((xu_584.drop 68).take 1).all (xVerCs xT_584 xHt 100000 209 xm_X10_spanLine xc_584 xu_584 [0] []) = true := by
  rw [← zVerCs_eq]
  decide +kernel
theorem xw_584_69 : ((xu_584.drop 69).take 1).all (xVerCs xT_584 xHt 100000 209 xm_X10_spanLine xc_584 xu_584 [0] []) = true := by
  rw [← zVerCs_eq]
  decide +kernel
theorem xw_584_70 : ((xu_584.drop 70).take 1).all (xVerCs xT_584 xHt 100000 209 xm_X10_spanLine xc_584 xu_584 [0] []) = true := by
  rw [← zVerCs_eq]
  decide +kernel
theorem xw_584_71 : ((xu_584.drop 71).take 1).all (xVerCs xT_584 xHt 100000 209 xm_X10_spanLine xc_584 xu_584 [0] []) = true := by
  rw [← zVerCs_eq]
  decide +kernel
theorem xw_584_72 : ((xu_584.drop 72).take 1).all (xVerCs xT_584 xHt 100000 209 xm_X10_spanLine xc_584 xu_584 [2] []) = true := by
  rw [← zVerCs_eq]
  decide +kernel
theorem xw_584_73 : ((xu_584.drop 73).take 1).all (xVerCs xT_584 xHt 100000 209 xm_X10_spanLine xc_584 xu_584 [1] []) = true := by
  rw [← zVerCs_eq]
  decide +kernel
theorem xok_584 (l : Launch) : xCk l 209 xc_584 := ⟨xm_X10_spanLine, rfl, xVer_ok xk_all (xHt_ok l) (T := xT_584) (xTc (xok_574 l) (xTn l)) rfl (f := 100000) (cuts := xu_584) (xStE (es := []) xn_584 (xStS xv_584_0 (xStS xv_584_18 (xStS xv_584_36 (xStS xv_584_54 (xStS xv_584_72 (xStS xv_584_90 (xStS xv_584_108 (xStS xv_584_126 (xStS xv_584_144 (xStZ xz_584))))))))))) (xAll0 (xAllS 0 1 (xAllCs xw_584_0) (xAllS 1 1 (xAllCs xw_584_1) (xAllS 2 1 (xAllCs xw_584_2) (xAllS 3 1 (xAllCs xw_584_3) (xAllS 4 1 (xAllCs xw_584_4) (xAllS 5 1 (xAllCs xw_584_5) (xAllS 6 1 (xAllCs xw_584_6) (xAllS 7 1 (xAllCs xw_584_7) (xAllS 8 1 (xAllCs xw_584_8) (xAllS 9 1 (xAllCs xw_584_9) (xAllS 10 1 (xAllCs xw_584_10) (xAllS 11 1 (xAllCs xw_584_11) (xAllS 12 1 (xAllCs xw_584_12) (xAllS 13 1 (xAllCs xw_584_13) (xAllS 14 1 (xAllCs xw_584_14) (xAllS 15 1 (xAllCs xw_584_15) (xAllS 16 1 (xAllCs xw_584_16) (xAllS 17 1 (xAllCs xw_584_17) (xAllS 18 1 (xAllCs xw_584_18) (xAllS 19 1 (xAllCs xw_584_19) (xAllS 20 1 (xAllCs xw_584_20) (xAllS 21 1 (xAllCs xw_584_21) (xAllS 22 1 (xAllCs xw_584_22) (xAllS 23 1 (xAllCs xw_584_23) (xAllS 24 1 (xAllCs xw_584_24) (xAllS 25 1 (xAllCs xw_584_25) (xAllS 26 1 (xAllCs xw_584_26) (xAllS 27 1 (xAllCs xw_584_27) (xAllS 28 1 (xAllCs xw_584_28) (xAllS 29 1 (xAllCs xw_584_29) (xAllS 30 1 (xAllCs xw_584_30) (xAllS 31 1 (xAllCs xw_584_31) (xAllS 32 1 (xAllCs xw_584_32) (xAllS 33 1 (xAllCs xw_584_33) (xAllS 34 1 (xAllCs xw_584_34) (xAllS 35 1 (xAllCs xw_584_35) (xAllS 36 1 (xAllCs xw_584_36) (xAllS 37 1 (xAllCs xw_584_37) (xAllS 38 1 (xAllCs xw_584_38) (xAllS 39 1 (xAllCs xw_584_39) (xAllS 40 1 (xAllCs xw_584_40) (xAllS 41 1 (xAllCs xw_584_41) (xAllS 42 1 (xAllCs xw_584_42) (xAllS 43 1 (xAllCs xw_584_43) (xAllS 44 1 (xAllCs xw_584_44) (xAllS 45 1 (xAllCs xw_584_45) (xAllS 46 1 (xAllCs xw_584_46) (xAllS 47 1 (xAllCs xw_584_47) (xAllS 48 1 (xAllCs xw_584_48) (xAllS 49 1 (xAllCs xw_584_49) (xAllS 50 1 (xAllCs xw_584_50) (xAllS 51 1 (xAllCs xw_584_51) (xAllS 52 1 (xAllCs xw_584_52) (xAllS 53 1 (xAllCs xw_584_53) (xAllS 54 1 (xAllCs xw_584_54) (xAllS 55 1 (xAllCs xw_584_55) (xAllS 56 1 (xAllCs xw_584_56) (xAllS 57 1 (xAllCs xw_584_57) (xAllS 58 1 (xAllCs xw_584_58) (xAllS 59 1 (xAllCs xw_584_59) (xAllS 60 1 (xAllCs xw_584_60) (xAllS 61 1 (xAllCs xw_584_61) (xAllS 62 1 (xAllCs xw_584_62) (xAllS 63 1 (xAllCs xw_584_63) (xAllS 64 1 (xAllCs xw_584_64) (xAllS 65 1 (xAllCs xw_584_65) (xAllS 66 1 (xAllCs xw_584_66) (xAllS 67 1 (xAllCs xw_584_67) (xAllS 68 1 (xAllCs xw_584_68) (xAllS 69 1 (xAllCs xw_584_69) (xAllS 70 1 (xAllCs xw_584_70) (xAllS 71 1 (xAllCs xw_584_71) (xAllS 72 1 (xAllCs xw_584_72) (xAllS 73 1 (xAllCs xw_584_73) (xAllZ (by decide +kernel)))))))))))))))))))))))))))))))))))))))))))))))))))))))))))))))))))))))))))))⟩
def kc1128 : xC := kO 10 [kI 2, kX 20, kX 21, kX 22, kX 23, kR 1, kI 3, kI 46, kI 47, kI 48, kI 49, kJ 50, kI 51, kI 52, kI 10, kI 11, kX 24, kR 2, kX 25, kX 26, kX 27, kR 3, kX 28, kX 29, kI 12, kI 13, kI 14, kI 15, kI 16, kI 17, kI 18, kX 30, kX 31, kX 32, kX 33, kX 34, kX 35, kX 36, kI 19, kX 37, kX 38, kI 20, kI 21, kI 22, kX 39, kX 40, kX 41, kX 42, kX 43, kI 23, kI 24, kI 25, kI 26, kI 27, kI 28, kX 44]
def kb190 : List xB := [(10, 10), (1, 1), kA3, (0, 800), (0, 800), kA3, kA3, kA3, kA6, kA3, kA3, kA3, kA3, kA3, kA3, kA3, kA3, kA3, kA3, kA3, kA3, kA3, kA3, kA3, kA3, kA3, kA3, kA3, kA3, (0, 24), (0, 6), (0, 30), (0, 24), (0, 6), (0, 30), (0, 24), (0, 6), (0, 30), (0, 24), (0, 6), (0, 30), (0, 24), (0, 6), (0, 30), kA3, kA3, (0, 800), kA3, kA3, kA3, kA6, (1, 2), kA3]
def kc1129 : xC := kO 10 [kI 2, kX 20, kX 21, kX 22, kX 23, kR 1, kI 3, kI 46, kI 47, kI 48, kI 49, kJ 50, kIc 0, kI 9, kI 10, kI 11, kX 24, kR 2, kX 25, kX 26, kX 27, kR 3, kX 28, kX 29, kI 12, kI 13, kI 14, kI 15, kI 16, kI 17, kI 18, kX 30, kX 31, kX 32, kX 33, kX 34, kX 35, kX 36, kI 19, kX 37, kX 38, kI 20, kI 21, kI 22, kX 39, kX 40, kX 41, kX 42, kX 43, kI 23, kI 24, kI 25, kI 26, kI 27, kI 28, kX 44]
def kb191 : List xB := [(10, 10), (1, 1), kA3, (0, 800), (0, 800), kA3, kA3, kA3, kA6, kA3, kA3, kA3, kA3, kA3, kA3, kA3, kA3, kA3, kA3, kA3, kA3, kA3, kA3, kA3, kA3, kA3, kA3, kA3, kA3, (0, 24), (0, 6), (0, 30), (0, 24), (0, 6), (0, 30), (0, 24), (0, 6), (0, 30), (0, 24), (0, 6), (0, 30), (0, 24), (0, 6), (0, 30), kA3, kA3, (0, 800), (0, 2), kA3, kA3, kA6]
def kc1130 : xC := kO 10 [kI 2, kX 20, kX 21, kX 22, kX 23, kR 1, kI 3, kI 46, kI 47, kI 48, kIc 0, kJc 0, kIc 0, kI 9, kI 10, kI 11, kX 24, kR 2, kX 25, kX 26, kX 27, kR 3, kX 28, kX 29, kI 12, kI 13, kI 14, kI 15, kI 16, kI 17, kI 18, kX 30, kX 31, kX 32, kX 33, kX 34, kX 35, kX 36, kI 19, kX 37, kX 38, kI 20, kI 21, kI 22, kX 39, kX 40, kX 41, kX 42, kX 43, kI 23, kI 24, kI 25, kI 26, kI 27, kI 28, kX 44]
def kb192 : List xB := [(10, 10), (1, 1), kA3, (0, 800), (0, 800), kA3, kA3, kA3, kA6, kA3, kA3, kA3, kA3, kA3, kA3, kA3, kA3, kA3, kA3, kA3, kA3, kA3, kA3, kA3, kA3, kA3, kA3, kA3, kA3, (0, 24), (0, 6), (0, 30), (0, 24), (0, 6), (0, 30), (0, 24), (0, 6), (0, 30), (0, 24), (0, 6), (0, 30), (0, 24), (0, 6), (0, 30), kA3, kA3, (0, 800), (3, 4), kA3]
def xe_585_0 : xPt := ([kc1128, kc218, kc543, kc538], kb190, [([(46, (-1)), (3, 1)], 0), ([(46, 1), (4, (-1))], 0)], [], 25)
def xe_585_1 : xPt := ([kc1129, kc218, kc543, kc538], kb191, [([(46, (-1)), (3, 1)], 0), ([(46, 1), (4, (-1))], 0)], [], 25)
def xe_585_2 : xPt := ([kc1130, kc218, kc543, kc538], kb192, [([(46, (-1)), (3, 1)], 0), ([(46, 1), (4, (-1))], (-1))], [], 25)
def kc1131 : xC := kO 10 [kI 2, kX 20, kX 21, kX 22, kX 23, kR 1, kI 3, kI 4, kI 5, kI 6, kI 7, kJ 8, kIc 0, kI 9, kI 10, kI 11, kX 24, kR 2, kX 25, kX 26, kX 27, kR 3, kX 28, kX 29, kI 12, kI 13, kI 14, kI 15, kI 16, kI 17, kI 18, kX 30, kX 31, kX 32, kX 33, kX 34, kX 35, kX 36, kI 19, kX 37, kX 38, kI 20, kI 21, kI 22, kX 39, kX 40, kX 41, kX 42, kX 43, kI 23, kI 24, kI 25, kI 26, kI 27, kI 28, kX 44]
def kb193 : List xB := [(10, 10), (1, 1), kA3, (0, 800), (0, 800), kA3, kA3, kA3, kA6, kA3, kA3, kA3, kA3, kA3, kA3, kA3, kA3, kA3, kA3, kA3, kA3, kA3, kA3, kA3, kA3, kA3, kA3, kA3, kA3, (0, 24), (0, 6), (0, 30), (0, 24), (0, 6), (0, 30), (0, 24), (0, 6), (0, 30), (0, 24), (0, 6), (0, 30), (0, 24), (0, 6), (0, 30), kA3, kA3]
def kc1132 : xC := kO 10 [kI 2, kX 20, kX 21, kX 22, kX 23, kR 1, kI 3, kI 48, kI 49, kI 50, kIc 0, kJc 0, kIc 0, kI 9, kI 10, kI 11, kX 24, kR 2, kX 25, kX 26, kX 27, kR 3, kX 28, kX 29, kI 12, kI 13, kI 14, kI 15, kI 16, kI 17, kI 18, kX 30, kX 31, kX 32, kX 33, kX 34, kX 35, kX 36, kI 19, kX 37, kX 38, kI 20, kI 21, kI 22, kX 39, kX 40, kX 41, kX 42, kX 43, kI 23, kI 24, kI 25, kI 26, kI 27, kI 28, kX 44]
def kb194 : List xB := [(10, 10), (1, 1), kA3, (0, 800), (0, 800), kA3, kA3, kA3, kA6, kA3, kA3, kA3, kA3, kA3, kA3, kA3, kA3, kA3, kA3, kA3, kA3, kA3, kA3, kA3, kA3, kA3, kA3, kA3, kA3, (0, 24), (0, 6), (0, 30), (0, 24), (0, 6), (0, 30), (0, 24), (0, 6), (0, 30), (0, 24), (0, 6), (0, 30), (0, 24), (0, 6), (0, 30), kA3, kA3, (0, 23), (0, 23), (0, 800), (3, 4), kA3]
def kb195 : List xB := [(10, 10), (1, 1), kA3, (0, 800), (0, 800), kA3, kA3, kA3, kA6, kA3, kA3, kA3, kA3, kA3, kA3, kA3, kA3, kA3, kA3, kA3, kA3, kA3, kA3, kA3, kA3, kA3, kA3, kA3, kA3, (0, 24), (0, 6), (0, 30), (0, 24), (0, 6), (0, 30), (0, 24), (0, 6), (0, 30), (0, 24), (0, 6), (0, 30), (0, 24), (0, 6), (0, 30), kA3, kA3, (0, 22), (0, 23), (0, 800), (3, 4), kA3]
def kb196 : List xB := [(10, 10), (1, 1), kA3, (0, 800), (0, 800), kA3, kA3, kA3, kA6, kA3, kA3, kA3, kA3, kA3, kA3, kA3, kA3, kA3, kA3, kA3, kA3, kA3, kA3, kA3, kA3, kA3, kA3, kA3, kA3, (0, 24), (0, 6), (0, 30), (0, 24), (0, 6), (0, 30), (0, 24), (0, 6), (0, 30), (0, 24), (0, 6), (0, 30), (0, 24), (0, 6), (0, 30), kA3, kA3, (0, 21), (0, 23), (0, 800), (3, 4), kA3]
def kb197 : List xB := [(10, 10), (1, 1), kA3, (0, 800), (0, 800), kA3, kA3, kA3, kA6, kA3, kA3, kA3, kA3, kA3, kA3, kA3, kA3, kA3, kA3, kA3, kA3, kA3, kA3, kA3, kA3, kA3, kA3, kA3, kA3, (0, 24), (0, 6), (0, 30), (0, 24), (0, 6), (0, 30), (0, 24), (0, 6), (0, 30), (0, 24), (0, 6), (0, 30), (0, 24), (0, 6), (0, 30), kA3, kA3, (0, 20), (0, 23), (0, 800), (3, 4), kA3]
def kb198 : List xB := [(10, 10), (1, 1), kA3, (0, 800), (0, 800), kA3, kA3, kA3, kA6, kA3, kA3, kA3, kA3, kA3, kA3, kA3, kA3, kA3, kA3, kA3, kA3, kA3, kA3, kA3, kA3, kA3, kA3, kA3, kA3, (0, 24), (0, 6), (0, 30), (0, 24), (0, 6), (0, 30), (0, 24), (0, 6), (0, 30), (0, 24), (0, 6), (0, 30), (0, 24), (0, 6), (0, 30), kA3, kA3, (0, 19), (0, 23), (0, 800), (3, 4), kA3]
def kb199 : List xB := [(10, 10), (1, 1), kA3, (0, 800), (0, 800), kA3, kA3, kA3, kA6, kA3, kA3, kA3, kA3, kA3, kA3, kA3, kA3, kA3, kA3, kA3, kA3, kA3, kA3, kA3, kA3, kA3, kA3, kA3, kA3, (0, 24), (0, 6), (0, 30), (0, 24), (0, 6), (0, 30), (0, 24), (0, 6), (0, 30), (0, 24), (0, 6), (0, 30), (0, 24), (0, 6), (0, 30), kA3, kA3, (0, 18), (0, 23), (0, 800), (3, 4), kA3]
def kb200 : List xB := [(10, 10), (1, 1), kA3, (0, 800), (0, 800), kA3, kA3, kA3, kA6, kA3, kA3, kA3, kA3, kA3, kA3, kA3, kA3, kA3, kA3, kA3, kA3, kA3, kA3, kA3, kA3, kA3, kA3, kA3, kA3, (0, 24), (0, 6), (0, 30), (0, 24), (0, 6), (0, 30), (0, 24), (0, 6), (0, 30), (0, 24), (0, 6), (0, 30), (0, 24), (0, 6), (0, 30), kA3, kA3, (0, 17), (0, 23), (0, 800), (3, 4), kA3]
def kb201 : List xB := [(10, 10), (1, 1), kA3, (0, 800), (0, 800), kA3, kA3, kA3, kA6, kA3, kA3, kA3, kA3, kA3, kA3, kA3, kA3, kA3, kA3, kA3, kA3, kA3, kA3, kA3, kA3, kA3, kA3, kA3, kA3, (0, 24), (0, 6), (0, 30), (0, 24), (0, 6), (0, 30), (0, 24), (0, 6), (0, 30), (0, 24), (0, 6), (0, 30), (0, 24), (0, 6), (0, 30), kA3, kA3, (0, 16), (0, 23), (0, 800), (3, 4), kA3]
def kb202 : List xB := [(10, 10), (1, 1), kA3, (0, 800), (0, 800), kA3, kA3, kA3, kA6, kA3, kA3, kA3, kA3, kA3, kA3, kA3, kA3, kA3, kA3, kA3, kA3, kA3, kA3, kA3, kA3, kA3, kA3, kA3, kA3, (0, 24), (0, 6), (0, 30), (0, 24), (0, 6), (0, 30), (0, 24), (0, 6), (0, 30), (0, 24), (0, 6), (0, 30), (0, 24), (0, 6), (0, 30), kA3, kA3, (0, 15), (0, 23), (0, 800), (3, 4), kA3]
def kb203 : List xB := [(10, 10), (1, 1), kA3, (0, 800), (0, 800), kA3, kA3, kA3, kA6, kA3, kA3, kA3, kA3, kA3, kA3, kA3, kA3, kA3, kA3, kA3, kA3, kA3, kA3, kA3, kA3, kA3, kA3, kA3, kA3, (0, 24), (0, 6), (0, 30), (0, 24), (0, 6), (0, 30), (0, 24), (0, 6), (0, 30), (0, 24), (0, 6), (0, 30), (0, 24), (0, 6), (0, 30), kA3, kA3, (0, 14), (0, 23), (0, 800), (3, 4), kA3]
def kb204 : List xB := [(10, 10), (1, 1), kA3, (0, 800), (0, 800), kA3, kA3, kA3, kA6, kA3, kA3, kA3, kA3, kA3, kA3, kA3, kA3, kA3, kA3, kA3, kA3, kA3, kA3, kA3, kA3, kA3, kA3, kA3, kA3, (0, 24), (0, 6), (0, 30), (0, 24), (0, 6), (0, 30), (0, 24), (0, 6), (0, 30), (0, 24), (0, 6), (0, 30), (0, 24), (0, 6), (0, 30), kA3, kA3, (0, 13), (0, 23), (0, 800), (3, 4), kA3]
def kb205 : List xB := [(10, 10), (1, 1), kA3, (0, 800), (0, 800), kA3, kA3, kA3, kA6, kA3, kA3, kA3, kA3, kA3, kA3, kA3, kA3, kA3, kA3, kA3, kA3, kA3, kA3, kA3, kA3, kA3, kA3, kA3, kA3, (0, 24), (0, 6), (0, 30), (0, 24), (0, 6), (0, 30), (0, 24), (0, 6), (0, 30), (0, 24), (0, 6), (0, 30), (0, 24), (0, 6), (0, 30), kA3, kA3, (0, 12), (0, 23), (0, 800), (3, 4), kA3]
def kb206 : List xB := [(10, 10), (1, 1), kA3, (0, 800), (0, 800), kA3, kA3, kA3, kA6, kA3, kA3, kA3, kA3, kA3, kA3, kA3, kA3, kA3, kA3, kA3, kA3, kA3, kA3, kA3, kA3, kA3, kA3, kA3, kA3, (0, 24), (0, 6), (0, 30), (0, 24), (0, 6), (0, 30), (0, 24), (0, 6), (0, 30), (0, 24), (0, 6), (0, 30), (0, 24), (0, 6), (0, 30), kA3, kA3, (0, 11), (0, 23), (0, 800), (3, 4), kA3]
def kb207 : List xB := [(10, 10), (1, 1), kA3, (0, 800), (0, 800), kA3, kA3, kA3, kA6, kA3, kA3, kA3, kA3, kA3, kA3, kA3, kA3, kA3, kA3, kA3, kA3, kA3, kA3, kA3, kA3, kA3, kA3, kA3, kA3, (0, 24), (0, 6), (0, 30), (0, 24), (0, 6), (0, 30), (0, 24), (0, 6), (0, 30), (0, 24), (0, 6), (0, 30), (0, 24), (0, 6), (0, 30), kA3, kA3, (0, 10), (0, 23), (0, 800), (3, 4), kA3]
def kb208 : List xB := [(10, 10), (1, 1), kA3, (0, 800), (0, 800), kA3, kA3, kA3, kA6, kA3, kA3, kA3, kA3, kA3, kA3, kA3, kA3, kA3, kA3, kA3, kA3, kA3, kA3, kA3, kA3, kA3, kA3, kA3, kA3, (0, 24), (0, 6), (0, 30), (0, 24), (0, 6), (0, 30), (0, 24), (0, 6), (0, 30), (0, 24), (0, 6), (0, 30), (0, 24), (0, 6), (0, 30), kA3, kA3, (0, 9), (0, 23), (0, 800), (3, 4), kA3]
def kb209 : List xB := [(10, 10), (1, 1), kA3, (0, 800), (0, 800), kA3, kA3, kA3, kA6, kA3, kA3, kA3, kA3, kA3, kA3, kA3, kA3, kA3, kA3, kA3, kA3, kA3, kA3, kA3, kA3, kA3, kA3, kA3, kA3, (0, 24), (0, 6), (0, 30), (0, 24), (0, 6), (0, 30), (0, 24), (0, 6), (0, 30), (0, 24), (0, 6), (0, 30), (0, 24), (0, 6), (0, 30), kA3, kA3, (0, 8), (0, 23), (0, 800), (3, 4), kA3]
def kb210 : List xB := [(10, 10), (1, 1), kA3, (0, 800), (0, 800), kA3, kA3, kA3, kA6, kA3, kA3, kA3, kA3, kA3, kA3, kA3, kA3, kA3, kA3, kA3, kA3, kA3, kA3, kA3, kA3, kA3, kA3, kA3, kA3, (0, 24), (0, 6), (0, 30), (0, 24), (0, 6), (0, 30), (0, 24), (0, 6), (0, 30), (0, 24), (0, 6), (0, 30), (0, 24), (0, 6), (0, 30), kA3, kA3, (0, 7), (0, 23), (0, 800), (3, 4), kA3]
def kb211 : List xB := [(10, 10), (1, 1), kA3, (0, 800), (0, 800), kA3, kA3, kA3, kA6, kA3, kA3, kA3, kA3, kA3, kA3, kA3, kA3, kA3, kA3, kA3, kA3, kA3, kA3, kA3, kA3, kA3, kA3, kA3, kA3, (0, 24), (0, 6), (0, 30), (0, 24), (0, 6), (0, 30), (0, 24), (0, 6), (0, 30), (0, 24), (0, 6), (0, 30), (0, 24), (0, 6), (0, 30), kA3, kA3, (0, 6), (0, 23), (0, 800), (3, 4), kA3]
def kb212 : List xB := [(10, 10), (1, 1), kA3, (0, 800), (0, 800), kA3, kA3, kA3, kA6, kA3, kA3, kA3, kA3, kA3, kA3, kA3, kA3, kA3, kA3, kA3, kA3, kA3, kA3, kA3, kA3, kA3, kA3, kA3, kA3, (0, 24), (0, 6), (0, 30), (0, 24), (0, 6), (0, 30), (0, 24), (0, 6), (0, 30), (0, 24), (0, 6), (0, 30), (0, 24), (0, 6), (0, 30), kA3, kA3, (0, 5), (0, 23), (0, 800), (3, 4), kA3]
def kb213 : List xB := [(10, 10), (1, 1), kA3, (0, 800), (0, 800), kA3, kA3, kA3, kA6, kA3, kA3, kA3, kA3, kA3, kA3, kA3, kA3, kA3, kA3, kA3, kA3, kA3, kA3, kA3, kA3, kA3, kA3, kA3, kA3, (0, 24), (0, 6), (0, 30), (0, 24), (0, 6), (0, 30), (0, 24), (0, 6), (0, 30), (0, 24), (0, 6), (0, 30), (0, 24), (0, 6), (0, 30), kA3, kA3, (0, 4), (0, 23), (0, 800), (3, 4), kA3]
def kb214 : List xB := [(10, 10), (1, 1), kA3, (0, 800), (0, 800), kA3, kA3, kA3, kA6, kA3, kA3, kA3, kA3, kA3, kA3, kA3, kA3, kA3, kA3, kA3, kA3, kA3, kA3, kA3, kA3, kA3, kA3, kA3, kA3, (0, 24), (0, 6), (0, 30), (0, 24), (0, 6), (0, 30), (0, 24), (0, 6), (0, 30), (0, 24), (0, 6), (0, 30), (0, 24), (0, 6), (0, 30), kA3, kA3, (0, 3), (0, 23), (0, 800), (3, 4), kA3]
def kb215 : List xB := [(10, 10), (1, 1), kA3, (0, 800), (0, 800), kA3, kA3, kA3, kA6, kA3, kA3, kA3, kA3, kA3, kA3, kA3, kA3, kA3, kA3, kA3, kA3, kA3, kA3, kA3, kA3, kA3, kA3, kA3, kA3, (0, 24), (0, 6), (0, 30), (0, 24), (0, 6), (0, 30), (0, 24), (0, 6), (0, 30), (0, 24), (0, 6), (0, 30), (0, 24), (0, 6), (0, 30), kA3, kA3, (0, 2), (0, 23), (0, 800), (3, 4), kA3]
def kb216 : List xB := [(10, 10), (1, 1), kA3, (0, 800), (0, 800), kA3, kA3, kA3, kA6, kA3, kA3, kA3, kA3, kA3, kA3, kA3, kA3, kA3, kA3, kA3, kA3, kA3, kA3, kA3, kA3, kA3, kA3, kA3, kA3, (0, 24), (0, 6), (0, 30), (0, 24), (0, 6), (0, 30), (0, 24), (0, 6), (0, 30), (0, 24), (0, 6), (0, 30), (0, 24), (0, 6), (0, 30), kA3, kA3, (0, 1), (0, 23), (0, 800), (3, 4), kA3]
def kc1133 : xC := kO 10 [kI 2, kX 20, kX 21, kX 22, kX 23, kR 1, kI 3, kI 47, kI 48, kI 49, kIc 0, kJc 0, kIc 0, kI 9, kI 10, kI 11, kX 24, kR 2, kX 25, kX 26, kX 27, kR 3, kX 28, kX 29, kI 12, kI 13, kI 14, kI 15, kI 16, kI 17, kI 18, kX 30, kX 31, kX 32, kX 33, kX 34, kX 35, kX 36, kI 19, kX 37, kX 38, kI 20, kI 21, kI 22, kX 39, kX 40, kX 41, kX 42, kX 43, kI 23, kI 24, kI 25, kI 26, kI 27, kI 28, kX 44]
def kb217 : List xB := [(10, 10), (1, 1), kA3, (0, 800), (0, 800), kA3, kA3, kA3, kA6, kA3, kA3, kA3, kA3, kA3, kA3, kA3, kA3, kA3, kA3, kA3, kA3, kA3, kA3, kA3, kA3, kA3, kA3, kA3, kA3, (0, 24), (0, 6), (0, 30), (0, 24), (0, 6), (0, 30), (0, 24), (0, 6), (0, 30), (0, 24), (0, 6), (0, 30), (0, 24), (0, 6), (0, 30), kA3, kA3, (0, 23), (0, 800), (3, 4), kA3]
def kc1134 : xC := kO 10 [kI 2, kX 20, kX 21, kX 22, kX 23, kR 1, kI 3, kI 48, kI 49, kI 50, kI 51, kJ 52, kIc 0, kI 9, kI 10, kI 11, kX 24, kR 2, kX 25, kX 26, kX 27, kR 3, kX 28, kX 29, kI 12, kI 13, kI 14, kI 15, kI 16, kI 17, kI 18, kX 30, kX 31, kX 32, kX 33, kX 34, kX 35, kX 36, kI 19, kX 37, kX 38, kI 20, kI 21, kI 22, kX 39, kX 40, kX 41, kX 42, kX 43, kI 23, kI 24, kI 25, kI 26, kI 27, kI 28, kX 44]
def kb218 : List xB := [(10, 10), (1, 1), kA3, (0, 800), (0, 800), kA3, kA3, kA3, kA6, kA3, kA3, kA3, kA3, kA3, kA3, kA3, kA3, kA3, kA3, kA3, kA3, kA3, kA3, kA3, kA3, kA3, kA3, kA3, kA3, (0, 24), (0, 6), (0, 30), (0, 24), (0, 6), (0, 30), (0, 24), (0, 6), (0, 30), (0, 24), (0, 6), (0, 30), (0, 24), (0, 6), (0, 30), kA3, kA3, (0, 23), (0, 23), (0, 800), (0, 2), kA3, kA3, kA6]
def kb219 : List xB := [(10, 10), (1, 1), kA3, (0, 800), (0, 800), kA3, kA3, kA3, kA6, kA3, kA3, kA3, kA3, kA3, kA3, kA3, kA3, kA3, kA3, kA3, kA3, kA3, kA3, kA3, kA3, kA3, kA3, kA3, kA3, (0, 24), (0, 6), (0, 30), (0, 24), (0, 6), (0, 30), (0, 24), (0, 6), (0, 30), (0, 24), (0, 6), (0, 30), (0, 24), (0, 6), (0, 30), kA3, kA3, (0, 22), (0, 23), (0, 800), (0, 2), kA3, kA3, kA6]
def kb220 : List xB := [(10, 10), (1, 1), kA3, (0, 800), (0, 800), kA3, kA3, kA3, kA6, kA3, kA3, kA3, kA3, kA3, kA3, kA3, kA3, kA3, kA3, kA3, kA3, kA3, kA3, kA3, kA3, kA3, kA3, kA3, kA3, (0, 24), (0, 6), (0, 30), (0, 24), (0, 6), (0, 30), (0, 24), (0, 6), (0, 30), (0, 24), (0, 6), (0, 30), (0, 24), (0, 6), (0, 30), kA3, kA3, (0, 21), (0, 23), (0, 800), (0, 2), kA3, kA3, kA6]
def kb221 : List xB := [(10, 10), (1, 1), kA3, (0, 800), (0, 800), kA3, kA3, kA3, kA6, kA3, kA3, kA3, kA3, kA3, kA3, kA3, kA3, kA3, kA3, kA3, kA3, kA3, kA3, kA3, kA3, kA3, kA3, kA3, kA3, (0, 24), (0, 6), (0, 30), (0, 24), (0, 6), (0, 30), (0, 24), (0, 6), (0, 30), (0, 24), (0, 6), (0, 30), (0, 24), (0, 6), (0, 30), kA3, kA3, (0, 20), (0, 23), (0, 800), (0, 2), kA3, kA3, kA6]
def kb222 : List xB := [(10, 10), (1, 1), kA3, (0, 800), (0, 800), kA3, kA3, kA3, kA6, kA3, kA3, kA3, kA3, kA3, kA3, kA3, kA3, kA3, kA3, kA3, kA3, kA3, kA3, kA3, kA3, kA3, kA3, kA3, kA3, (0, 24), (0, 6), (0, 30), (0, 24), (0, 6), (0, 30), (0, 24), (0, 6), (0, 30), (0, 24), (0, 6), (0, 30), (0, 24), (0, 6), (0, 30), kA3, kA3, (0, 19), (0, 23), (0, 800), (0, 2), kA3, kA3, kA6]
def kb223 : List xB := [(10, 10), (1, 1), kA3, (0, 800), (0, 800), kA3, kA3, kA3, kA6, kA3, kA3, kA3, kA3, kA3, kA3, kA3, kA3, kA3, kA3, kA3, kA3, kA3, kA3, kA3, kA3, kA3, kA3, kA3, kA3, (0, 24), (0, 6), (0, 30), (0, 24), (0, 6), (0, 30), (0, 24), (0, 6), (0, 30), (0, 24), (0, 6), (0, 30), (0, 24), (0, 6), (0, 30), kA3, kA3, (0, 18), (0, 23), (0, 800), (0, 2), kA3, kA3, kA6]
def kb224 : List xB := [(10, 10), (1, 1), kA3, (0, 800), (0, 800), kA3, kA3, kA3, kA6, kA3, kA3, kA3, kA3, kA3, kA3, kA3, kA3, kA3, kA3, kA3, kA3, kA3, kA3, kA3, kA3, kA3, kA3, kA3, kA3, (0, 24), (0, 6), (0, 30), (0, 24), (0, 6), (0, 30), (0, 24), (0, 6), (0, 30), (0, 24), (0, 6), (0, 30), (0, 24), (0, 6), (0, 30), kA3, kA3, (0, 17), (0, 23), (0, 800), (0, 2), kA3, kA3, kA6]
def kb225 : List xB := [(10, 10), (1, 1), kA3, (0, 800), (0, 800), kA3, kA3, kA3, kA6, kA3, kA3, kA3, kA3, kA3, kA3, kA3, kA3, kA3, kA3, kA3, kA3, kA3, kA3, kA3, kA3, kA3, kA3, kA3, kA3, (0, 24), (0, 6), (0, 30), (0, 24), (0, 6), (0, 30), (0, 24), (0, 6), (0, 30), (0, 24), (0, 6), (0, 30), (0, 24), (0, 6), (0, 30), kA3, kA3, (0, 16), (0, 23), (0, 800), (0, 2), kA3, kA3, kA6]
def kb226 : List xB := [(10, 10), (1, 1), kA3, (0, 800), (0, 800), kA3, kA3, kA3, kA6, kA3, kA3, kA3, kA3, kA3, kA3, kA3, kA3, kA3, kA3, kA3, kA3, kA3, kA3, kA3, kA3, kA3, kA3, kA3, kA3, (0, 24), (0, 6), (0, 30), (0, 24), (0, 6), (0, 30), (0, 24), (0, 6), (0, 30), (0, 24), (0, 6), (0, 30), (0, 24), (0, 6), (0, 30), kA3, kA3, (0, 15), (0, 23), (0, 800), (0, 2), kA3, kA3, kA6]
def kb227 : List xB := [(10, 10), (1, 1), kA3, (0, 800), (0, 800), kA3, kA3, kA3, kA6, kA3, kA3, kA3, kA3, kA3, kA3, kA3, kA3, kA3, kA3, kA3, kA3, kA3, kA3, kA3, kA3, kA3, kA3, kA3, kA3, (0, 24), (0, 6), (0, 30), (0, 24), (0, 6), (0, 30), (0, 24), (0, 6), (0, 30), (0, 24), (0, 6), (0, 30), (0, 24), (0, 6), (0, 30), kA3, kA3, (0, 14), (0, 23), (0, 800), (0, 2), kA3, kA3, kA6]
def kb228 : List xB := [(10, 10), (1, 1), kA3, (0, 800), (0, 800), kA3, kA3, kA3, kA6, kA3, kA3, kA3, kA3, kA3, kA3, kA3, kA3, kA3, kA3, kA3, kA3, kA3, kA3, kA3, kA3, kA3, kA3, kA3, kA3, (0, 24), (0, 6), (0, 30), (0, 24), (0, 6), (0, 30), (0, 24), (0, 6), (0, 30), (0, 24), (0, 6), (0, 30), (0, 24), (0, 6), (0, 30), kA3, kA3, (0, 13), (0, 23), (0, 800), (0, 2), kA3, kA3, kA6]
def kb229 : List xB := [(10, 10), (1, 1), kA3, (0, 800), (0, 800), kA3, kA3, kA3, kA6, kA3, kA3, kA3, kA3, kA3, kA3, kA3, kA3, kA3, kA3, kA3, kA3, kA3, kA3, kA3, kA3, kA3, kA3, kA3, kA3, (0, 24), (0, 6), (0, 30), (0, 24), (0, 6), (0, 30), (0, 24), (0, 6), (0, 30), (0, 24), (0, 6), (0, 30), (0, 24), (0, 6), (0, 30), kA3, kA3, (0, 12), (0, 23), (0, 800), (0, 2), kA3, kA3, kA6]
def kb230 : List xB := [(10, 10), (1, 1), kA3, (0, 800), (0, 800), kA3, kA3, kA3, kA6, kA3, kA3, kA3, kA3, kA3, kA3, kA3, kA3, kA3, kA3, kA3, kA3, kA3, kA3, kA3, kA3, kA3, kA3, kA3, kA3, (0, 24), (0, 6), (0, 30), (0, 24), (0, 6), (0, 30), (0, 24), (0, 6), (0, 30), (0, 24), (0, 6), (0, 30), (0, 24), (0, 6), (0, 30), kA3, kA3, (0, 11), (0, 23), (0, 800), (0, 2), kA3, kA3, kA6]
def kb231 : List xB := [(10, 10), (1, 1), kA3, (0, 800), (0, 800), kA3, kA3, kA3, kA6, kA3, kA3, kA3, kA3, kA3, kA3, kA3, kA3, kA3, kA3, kA3, kA3, kA3, kA3, kA3, kA3, kA3, kA3, kA3, kA3, (0, 24), (0, 6), (0, 30), (0, 24), (0, 6), (0, 30), (0, 24), (0, 6), (0, 30), (0, 24), (0, 6), (0, 30), (0, 24), (0, 6), (0, 30), kA3, kA3, (0, 10), (0, 23), (0, 800), (0, 2), kA3, kA3, kA6]
def kb232 : List xB := [(10, 10), (1, 1), kA3, (0, 800), (0, 800), kA3, kA3, kA3, kA6, kA3, kA3, kA3, kA3, kA3, kA3, kA3, kA3, kA3, kA3, kA3, kA3, kA3, kA3, kA3, kA3, kA3, kA3, kA3, kA3, (0, 24), (0, 6), (0, 30), (0, 24), (0, 6), (0, 30), (0, 24), (0, 6), (0, 30), (0, 24), (0, 6), (0, 30), (0, 24), (0, 6), (0, 30), kA3, kA3, (0, 9), (0, 23), (0, 800), (0, 2), kA3, kA3, kA6]
def kb233 : List xB := [(10, 10), (1, 1), kA3, (0, 800), (0, 800), kA3, kA3, kA3, kA6, kA3, kA3, kA3, kA3, kA3, kA3, kA3, kA3, kA3, kA3, kA3, kA3, kA3, kA3, kA3, kA3, kA3, kA3, kA3, kA3, (0, 24), (0, 6), (0, 30), (0, 24), (0, 6), (0, 30), (0, 24), (0, 6), (0, 30), (0, 24), (0, 6), (0, 30), (0, 24), (0, 6), (0, 30), kA3, kA3, (0, 8), (0, 23), (0, 800), (0, 2), kA3, kA3, kA6]
def kb234 : List xB := [(10, 10), (1, 1), kA3, (0, 800), (0, 800), kA3, kA3, kA3, kA6, kA3, kA3, kA3, kA3, kA3, kA3, kA3, kA3, kA3, kA3, kA3, kA3, kA3, kA3, kA3, kA3, kA3, kA3, kA3, kA3, (0, 24), (0, 6), (0, 30), (0, 24), (0, 6), (0, 30), (0, 24), (0, 6), (0, 30), (0, 24), (0, 6), (0, 30), (0, 24), (0, 6), (0, 30), kA3, kA3, (0, 7), (0, 23), (0, 800), (0, 2), kA3, kA3, kA6]
def kb235 : List xB := [(10, 10), (1, 1), kA3, (0, 800), (0, 800), kA3, kA3, kA3, kA6, kA3, kA3, kA3, kA3, kA3, kA3, kA3, kA3, kA3, kA3, kA3, kA3, kA3, kA3, kA3, kA3, kA3, kA3, kA3, kA3, (0, 24), (0, 6), (0, 30), (0, 24), (0, 6), (0, 30), (0, 24), (0, 6), (0, 30), (0, 24), (0, 6), (0, 30), (0, 24), (0, 6), (0, 30), kA3, kA3, (0, 6), (0, 23), (0, 800), (0, 2), kA3, kA3, kA6]
def kb236 : List xB := [(10, 10), (1, 1), kA3, (0, 800), (0, 800), kA3, kA3, kA3, kA6, kA3, kA3, kA3, kA3, kA3, kA3, kA3, kA3, kA3, kA3, kA3, kA3, kA3, kA3, kA3, kA3, kA3, kA3, kA3, kA3, (0, 24), (0, 6), (0, 30), (0, 24), (0, 6), (0, 30), (0, 24), (0, 6), (0, 30), (0, 24), (0, 6), (0, 30), (0, 24), (0, 6), (0, 30), kA3, kA3, (0, 5), (0, 23), (0, 800), (0, 2), kA3, kA3, kA6]
def kb237 : List xB := [(10, 10), (1, 1), kA3, (0, 800), (0, 800), kA3, kA3, kA3, kA6, kA3, kA3, kA3, kA3, kA3, kA3, kA3, kA3, kA3, kA3, kA3, kA3, kA3, kA3, kA3, kA3, kA3, kA3, kA3, kA3, (0, 24), (0, 6), (0, 30), (0, 24), (0, 6), (0, 30), (0, 24), (0, 6), (0, 30), (0, 24), (0, 6), (0, 30), (0, 24), (0, 6), (0, 30), kA3, kA3, (0, 4), (0, 23), (0, 800), (0, 2), kA3, kA3, kA6]
def kb238 : List xB := [(10, 10), (1, 1), kA3, (0, 800), (0, 800), kA3, kA3, kA3, kA6, kA3, kA3, kA3, kA3, kA3, kA3, kA3, kA3, kA3, kA3, kA3, kA3, kA3, kA3, kA3, kA3, kA3, kA3, kA3, kA3, (0, 24), (0, 6), (0, 30), (0, 24), (0, 6), (0, 30), (0, 24), (0, 6), (0, 30), (0, 24), (0, 6), (0, 30), (0, 24), (0, 6), (0, 30), kA3, kA3, (0, 3), (0, 23), (0, 800), (0, 2), kA3, kA3, kA6]
def kb239 : List xB := [(10, 10), (1, 1), kA3, (0, 800), (0, 800), kA3, kA3, kA3, kA6, kA3, kA3, kA3, kA3, kA3, kA3, kA3, kA3, kA3, kA3, kA3, kA3, kA3, kA3, kA3, kA3, kA3, kA3, kA3, kA3, (0, 24), (0, 6), (0, 30), (0, 24), (0, 6), (0, 30), (0, 24), (0, 6), (0, 30), (0, 24), (0, 6), (0, 30), (0, 24), (0, 6), (0, 30), kA3, kA3, (0, 2), (0, 23), (0, 800), (0, 2), kA3, kA3, kA6]
def kb240 : List xB := [(10, 10), (1, 1), kA3, (0, 800), (0, 800), kA3, kA3, kA3, kA6, kA3, kA3, kA3, kA3, kA3, kA3, kA3, kA3, kA3, kA3, kA3, kA3, kA3, kA3, kA3, kA3, kA3, kA3, kA3, kA3, (0, 24), (0, 6), (0, 30), (0, 24), (0, 6), (0, 30), (0, 24), (0, 6), (0, 30), (0, 24), (0, 6), (0, 30), (0, 24), (0, 6), (0, 30), kA3, kA3, (0, 1), (0, 23), (0, 800), (0, 2), kA3, kA3, kA6]
def kc1135 : xC := kO 10 [kI 2, kX 20, kX 21, kX 22, kX 23, kR 1, kI 3, kI 47, kI 48, kI 49, kI 50, kJ 51, kIc 0, kI 9, kI 10, kI 11, kX 24, kR 2, kX 25, kX 26, kX 27, kR 3, kX 28, kX 29, kI 12, kI 13, kI 14, kI 15, kI 16, kI 17, kI 18, kX 30, kX 31, kX 32, kX 33, kX 34, kX 35, kX 36, kI 19, kX 37, kX 38, kI 20, kI 21, kI 22, kX 39, kX 40, kX 41, kX 42, kX 43, kI 23, kI 24, kI 25, kI 26, kI 27, kI 28, kX 44]
def kb241 : List xB := [(10, 10), (1, 1), kA3, (0, 800), (0, 800), kA3, kA3, kA3, kA6, kA3, kA3, kA3, kA3, kA3, kA3, kA3, kA3, kA3, kA3, kA3, kA3, kA3, kA3, kA3, kA3, kA3, kA3, kA3, kA3, (0, 24), (0, 6), (0, 30), (0, 24), (0, 6), (0, 30), (0, 24), (0, 6), (0, 30), (0, 24), (0, 6), (0, 30), (0, 24), (0, 6), (0, 30), kA3, kA3, (0, 23), (0, 800), (0, 2), kA3, kA3, kA6]
def xq_585_0 : xCu := (29, [0, 1, 2, 3, 4, 5, 6], ([kc1132, kc218, kc543, kc538], kb194, [([(4, (-1)), (3, 1)], 0), ([(48, (-1)), (3, 1)], 0), ([(48, 1), (4, (-1))], (-1))], [kR 0, kR 3, kI 0, kI 1, kI 46, kI 47, kIc 23], 25), ([], 1))
def xq_585_1 : xCu := (29, [0, 1, 2, 3, 4, 5, 6], ([kc1132, kc218, kc543, kc538], kb195, [([(4, (-1)), (3, 1)], 0), ([(48, (-1)), (3, 1)], 0), ([(48, 1), (4, (-1))], (-1))], [kR 0, kR 3, kI 0, kI 1, kI 46, kI 47, kIc 22], 25), ([], 2))
def xq_585_2 : xCu := (29, [0, 1, 2, 3, 4, 5, 6], ([kc1132, kc218, kc543, kc538], kb196, [([(4, (-1)), (3, 1)], 0), ([(48, (-1)), (3, 1)], 0), ([(48, 1), (4, (-1))], (-1))], [kR 0, kR 3, kI 0, kI 1, kI 46, kI 47, kIc 21], 25), ([], 3))
def xq_585_3 : xCu := (29, [0, 1, 2, 3, 4, 5, 6], ([kc1132, kc218, kc543, kc538], kb197, [([(4, (-1)), (3, 1)], 0), ([(48, (-1)), (3, 1)], 0), ([(48, 1), (4, (-1))], (-1))], [kR 0, kR 3, kI 0, kI 1, kI 46, kI 47, kIc 20], 25), ([], 4))
def xq_585_4 : xCu := (29, [0, 1, 2, 3, 4, 5, 6], ([kc1132, kc218, kc543, kc538], kb198, [([(4, (-1)), (3, 1)], 0), ([(48, (-1)), (3, 1)], 0), ([(48, 1), (4, (-1))], (-1))], [kR 0, kR 3, kI 0, kI 1, kI 46, kI 47, kIc 19], 25), ([], 5))
def xq_585_5 : xCu := (29, [0, 1, 2, 3, 4, 5, 6], ([kc1132, kc218, kc543, kc538], kb199, [([(4, (-1)), (3, 1)], 0), ([(48, (-1)), (3, 1)], 0), ([(48, 1), (4, (-1))], (-1))], [kR 0, kR 3, kI 0, kI 1, kI 46, kI 47, kIc 18], 25), ([], 6))
def xq_585_6 : xCu := (29, [0, 1, 2, 3, 4, 5, 6], ([kc1132, kc218, kc543, kc538], kb200, [([(4, (-1)), (3, 1)], 0), ([(48, (-1)), (3, 1)], 0), ([(48, 1), (4, (-1))], (-1))], [kR 0, kR 3, kI 0, kI 1, kI 46, kI 47, kIc 17], 25), ([], 7))
def xq_585_7 : xCu := (29, [0, 1, 2, 3, 4, 5, 6], ([kc1132, kc218, kc543, kc538], kb201, [([(4, (-1)), (3, 1)], 0), ([(48, (-1)), (3, 1)], 0), ([(48, 1), (4, (-1))], (-1))], [kR 0, kR 3, kI 0, kI 1, kI 46, kI 47, kIc 16], 25), ([], 8))
def xq_585_8 : xCu := (29, [0, 1, 2, 3, 4, 5, 6], ([kc1132, kc218, kc543, kc538], kb202, [([(4, (-1)), (3, 1)], 0), ([(48, (-1)), (3, 1)], 0), ([(48, 1), (4, (-1))], (-1))], [kR 0, kR 3, kI 0, kI 1, kI 46, kI 47, kIc 15], 25), ([], 9))
def xq_585_9 : xCu := (29, [0, 1, 2, 3, 4, 5, 6], ([kc1132, kc218, kc543, kc538], kb203, [([(4, (-1)), (3, 1)], 0), ([(48, (-1)), (3, 1)], 0), ([(48, 1), (4, (-1))], (-1))], [kR 0, kR 3, kI 0, kI 1, kI 46, kI 47, kIc 14], 25), ([], 10))
def xq_585_10 : xCu := (29, [0, 1, 2, 3, 4, 5, 6], ([kc1132, kc218, kc543, kc538], kb204, [([(4, (-1)), (3, 1)], 0), ([(48, (-1)), (3, 1)], 0), ([(48, 1), (4, (-1))], (-1))], [kR 0, kR 3, kI 0, kI 1, kI 46, kI 47, kIc 13], 25), ([], 11))
def xq_585_11 : xCu := (29, [0, 1, 2, 3, 4, 5, 6], ([kc1132, kc218, kc543, kc538], kb205, [([(4, (-1)), (3, 1)], 0), ([(48, (-1)), (3, 1)], 0), ([(48, 1), (4, (-1))], (-1))], [kR 0, kR 3, kI 0, kI 1, kI 46, kI 47, kIc 12], 25), ([], 12))
def xq_585_12 : xCu := (29, [0, 1, 2, 3, 4, 5, 6], ([kc1132, kc218, kc543, kc538], kb206, [([(4, (-1)), (3, 1)], 0), ([(48, (-1)), (3, 1)], 0), ([(48, 1), (4, (-1))], (-1))], [kR 0, kR 3, kI 0, kI 1, kI 46, kI 47, kIc 11], 25), ([], 13))
def xq_585_13 : xCu := (29, [0, 1, 2, 3, 4, 5, 6], ([kc1132, kc218, kc543, kc538], kb207, [([(4, (-1)), (3, 1)], 0), ([(48, (-1)), (3, 1)], 0), ([(48, 1), (4, (-1))], (-1))], [kR 0, kR 3, kI 0, kI 1, kI 46, kI 47, kIc 10], 25), ([], 14))
def xq_585_14 : xCu := (29, [0, 1, 2, 3, 4, 5, 6], ([kc1132, kc218, kc543, kc538], kb208, [([(4, (-1)), (3, 1)], 0), ([(48, (-1)), (3, 1)], 0), ([(48, 1), (4, (-1))], (-1))], [kR 0, kR 3, kI 0, kI 1, kI 46, kI 47, kIc 9], 25), ([], 15))
def xq_585_15 : xCu := (29, [0, 1, 2, 3, 4, 5, 6], ([kc1132, kc218, kc543, kc538], kb209, [([(4, (-1)), (3, 1)], 0), ([(48, (-1)), (3, 1)], 0), ([(48, 1), (4, (-1))], (-1))], [kR 0, kR 3, kI 0, kI 1, kI 46, kI 47, kIc 8], 25), ([], 16))
def xq_585_16 : xCu := (29, [0, 1, 2, 3, 4, 5, 6], ([kc1132, kc218, kc543, kc538], kb210, [([(4, (-1)), (3, 1)], 0), ([(48, (-1)), (3, 1)], 0), ([(48, 1), (4, (-1))], (-1))], [kR 0, kR 3, kI 0, kI 1, kI 46, kI 47, kIc 7], 25), ([], 17))
def xq_585_17 : xCu := (29, [0, 1, 2, 3, 4, 5, 6], ([kc1132, kc218, kc543, kc538], kb211, [([(4, (-1)), (3, 1)], 0), ([(48, (-1)), (3, 1)], 0), ([(48, 1), (4, (-1))], (-1))], [kR 0, kR 3, kI 0, kI 1, kI 46, kI 47, kIc 6], 25), ([], 18))
def xq_585_18 : xCu := (29, [0, 1, 2, 3, 4, 5, 6], ([kc1132, kc218, kc543, kc538], kb212, [([(4, (-1)), (3, 1)], 0), ([(48, (-1)), (3, 1)], 0), ([(48, 1), (4, (-1))], (-1))], [kR 0, kR 3, kI 0, kI 1, kI 46, kI 47, kIc 5], 25), ([], 19))
def xq_585_19 : xCu := (29, [0, 1, 2, 3, 4, 5, 6], ([kc1132, kc218, kc543, kc538], kb213, [([(4, (-1)), (3, 1)], 0), ([(48, (-1)), (3, 1)], 0), ([(48, 1), (4, (-1))], (-1))], [kR 0, kR 3, kI 0, kI 1, kI 46, kI 47, kIc 4], 25), ([], 20))
def xq_585_20 : xCu := (29, [0, 1, 2, 3, 4, 5, 6], ([kc1132, kc218, kc543, kc538], kb214, [([(4, (-1)), (3, 1)], 0), ([(48, (-1)), (3, 1)], 0), ([(48, 1), (4, (-1))], (-1))], [kR 0, kR 3, kI 0, kI 1, kI 46, kI 47, kIc 3], 25), ([], 21))
def xq_585_21 : xCu := (29, [0, 1, 2, 3, 4, 5, 6], ([kc1132, kc218, kc543, kc538], kb215, [([(4, (-1)), (3, 1)], 0), ([(48, (-1)), (3, 1)], 0), ([(48, 1), (4, (-1))], (-1))], [kR 0, kR 3, kI 0, kI 1, kI 46, kI 47, kIc 2], 25), ([], 22))
def xq_585_22 : xCu := (29, [0, 1, 2, 3, 4, 5, 6], ([kc1132, kc218, kc543, kc538], kb216, [([(4, (-1)), (3, 1)], 0), ([(48, (-1)), (3, 1)], 0), ([(48, 1), (4, (-1))], (-1))], [kR 0, kR 3, kI 0, kI 1, kI 46, kI 47, kIc 1], 25), ([], 23))
def xq_585_23 : xCu := (29, [0, 1, 2, 3, 4, 5, 6], ([kc1133, kc218, kc543, kc538], kb217, [([(4, (-1)), (3, 1)], 0), ([(47, (-1)), (3, 1)], 0), ([(47, 1), (4, (-1))], (-1))], [kR 0, kR 3, kI 0, kI 1, kIc 0, kI 46, kIc 0], 25), ([], 24))
def xq_585_24 : xCu := (29, [0, 1, 2, 3, 4, 5, 6], ([kc1134, kc218, kc543, kc538], kb218, [([(4, (-1)), (3, 1)], 0), ([(48, (-1)), (3, 1)], 0), ([(48, 1), (4, (-1))], 0)], [kR 0, kR 3, kI 0, kI 1, kI 46, kI 47, kIc 23], 25), ([], 1))
def xq_585_25 : xCu := (29, [0, 1, 2, 3, 4, 5, 6], ([kc1134, kc218, kc543, kc538], kb219, [([(4, (-1)), (3, 1)], 0), ([(48, (-1)), (3, 1)], 0), ([(48, 1), (4, (-1))], 0)], [kR 0, kR 3, kI 0, kI 1, kI 46, kI 47, kIc 22], 25), ([], 2))
def xq_585_26 : xCu := (29, [0, 1, 2, 3, 4, 5, 6], ([kc1134, kc218, kc543, kc538], kb220, [([(4, (-1)), (3, 1)], 0), ([(48, (-1)), (3, 1)], 0), ([(48, 1), (4, (-1))], 0)], [kR 0, kR 3, kI 0, kI 1, kI 46, kI 47, kIc 21], 25), ([], 3))
def xq_585_27 : xCu := (29, [0, 1, 2, 3, 4, 5, 6], ([kc1134, kc218, kc543, kc538], kb221, [([(4, (-1)), (3, 1)], 0), ([(48, (-1)), (3, 1)], 0), ([(48, 1), (4, (-1))], 0)], [kR 0, kR 3, kI 0, kI 1, kI 46, kI 47, kIc 20], 25), ([], 4))
def xq_585_28 : xCu := (29, [0, 1, 2, 3, 4, 5, 6], ([kc1134, kc218, kc543, kc538], kb222, [([(4, (-1)), (3, 1)], 0), ([(48, (-1)), (3, 1)], 0), ([(48, 1), (4, (-1))], 0)], [kR 0, kR 3, kI 0, kI 1, kI 46, kI 47, kIc 19], 25), ([], 5))
def xq_585_29 : xCu := (29, [0, 1, 2, 3, 4, 5, 6], ([kc1134, kc218, kc543, kc538], kb223, [([(4, (-1)), (3, 1)], 0), ([(48, (-1)), (3, 1)], 0), ([(48, 1), (4, (-1))], 0)], [kR 0, kR 3, kI 0, kI 1, kI 46, kI 47, kIc 18], 25), ([], 6))
def xq_585_30 : xCu := (29, [0, 1, 2, 3, 4, 5, 6], ([kc1134, kc218, kc543, kc538], kb224, [([(4, (-1)), (3, 1)], 0), ([(48, (-1)), (3, 1)], 0), ([(48, 1), (4, (-1))], 0)], [kR 0, kR 3, kI 0, kI 1, kI 46, kI 47, kIc 17], 25), ([], 7))
def xq_585_31 : xCu := (29, [0, 1, 2, 3, 4, 5, 6], ([kc1134, kc218, kc543, kc538], kb225, [([(4, (-1)), (3, 1)], 0), ([(48, (-1)), (3, 1)], 0), ([(48, 1), (4, (-1))], 0)], [kR 0, kR 3, kI 0, kI 1, kI 46, kI 47, kIc 16], 25), ([], 8))
def xq_585_32 : xCu := (29, [0, 1, 2, 3, 4, 5, 6], ([kc1134, kc218, kc543, kc538], kb226, [([(4, (-1)), (3, 1)], 0), ([(48, (-1)), (3, 1)], 0), ([(48, 1), (4, (-1))], 0)], [kR 0, kR 3, kI 0, kI 1, kI 46, kI 47, kIc 15], 25), ([], 9))
def xq_585_33 : xCu := (29, [0, 1, 2, 3, 4, 5, 6], ([kc1134, kc218, kc543, kc538], kb227, [([(4, (-1)), (3, 1)], 0), ([(48, (-1)), (3, 1)], 0), ([(48, 1), (4, (-1))], 0)], [kR 0, kR 3, kI 0, kI 1, kI 46, kI 47, kIc 14], 25), ([], 10))
def xq_585_34 : xCu := (29, [0, 1, 2, 3, 4, 5, 6], ([kc1134, kc218, kc543, kc538], kb228, [([(4, (-1)), (3, 1)], 0), ([(48, (-1)), (3, 1)], 0), ([(48, 1), (4, (-1))], 0)], [kR 0, kR 3, kI 0, kI 1, kI 46, kI 47, kIc 13], 25), ([], 11))
def xq_585_35 : xCu := (29, [0, 1, 2, 3, 4, 5, 6], ([kc1134, kc218, kc543, kc538], kb229, [([(4, (-1)), (3, 1)], 0), ([(48, (-1)), (3, 1)], 0), ([(48, 1), (4, (-1))], 0)], [kR 0, kR 3, kI 0, kI 1, kI 46, kI 47, kIc 12], 25), ([], 12))
def xq_585_36 : xCu := (29, [0, 1, 2, 3, 4, 5, 6], ([kc1134, kc218, kc543, kc538], kb230, [([(4, (-1)), (3, 1)], 0), ([(48, (-1)), (3, 1)], 0), ([(48, 1), (4, (-1))], 0)], [kR 0, kR 3, kI 0, kI 1, kI 46, kI 47, kIc 11], 25), ([], 13))
def xq_585_37 : xCu := (29, [0, 1, 2, 3, 4, 5, 6], ([kc1134, kc218, kc543, kc538], kb231, [([(4, (-1)), (3, 1)], 0), ([(48, (-1)), (3, 1)], 0), ([(48, 1), (4, (-1))], 0)], [kR 0, kR 3, kI 0, kI 1, kI 46, kI 47, kIc 10], 25), ([], 14))
def xq_585_38 : xCu := (29, [0, 1, 2, 3, 4, 5, 6], ([kc1134, kc218, kc543, kc538], kb232, [([(4, (-1)), (3, 1)], 0), ([(48, (-1)), (3, 1)], 0), ([(48, 1), (4, (-1))], 0)], [kR 0, kR 3, kI 0, kI 1, kI 46, kI 47, kIc 9], 25), ([], 15))
def xq_585_39 : xCu := (29, [0, 1, 2, 3, 4, 5, 6], ([kc1134, kc218, kc543, kc538], kb233, [([(4, (-1)), (3, 1)], 0), ([(48, (-1)), (3, 1)], 0), ([(48, 1), (4, (-1))], 0)], [kR 0, kR 3, kI 0, kI 1, kI 46, kI 47, kIc 8], 25), ([], 16))
def xq_585_40 : xCu := (29, [0, 1, 2, 3, 4, 5, 6], ([kc1134, kc218, kc543, kc538], kb234, [([(4, (-1)), (3, 1)], 0), ([(48, (-1)), (3, 1)], 0), ([(48, 1), (4, (-1))], 0)], [kR 0, kR 3, kI 0, kI 1, kI 46, kI 47, kIc 7], 25), ([], 17))
def xq_585_41 : xCu := (29, [0, 1, 2, 3, 4, 5, 6], ([kc1134, kc218, kc543, kc538], kb235, [([(4, (-1)), (3, 1)], 0), ([(48, (-1)), (3, 1)], 0), ([(48, 1), (4, (-1))], 0)], [kR 0, kR 3, kI 0, kI 1, kI 46, kI 47, kIc 6], 25), ([], 18))
def xq_585_42 : xCu := (29, [0, 1, 2, 3, 4, 5, 6], ([kc1134, kc218, kc543, kc538], kb236, [([(4, (-1)), (3, 1)], 0), ([(48, (-1)), (3, 1)], 0), ([(48, 1), (4, (-1))], 0)], [kR 0, kR 3, kI 0, kI 1, kI 46, kI 47, kIc 5], 25), ([], 19))
def xq_585_43 : xCu := (29, [0, 1, 2, 3, 4, 5, 6], ([kc1134, kc218, kc543, kc538], kb237, [([(4, (-1)), (3, 1)], 0), ([(48, (-1)), (3, 1)], 0), ([(48, 1), (4, (-1))], 0)], [kR 0, kR 3, kI 0, kI 1, kI 46, kI 47, kIc 4], 25), ([], 20))
def xq_585_44 : xCu := (29, [0, 1, 2, 3, 4, 5, 6], ([kc1134, kc218, kc543, kc538], kb238, [([(4, (-1)), (3, 1)], 0), ([(48, (-1)), (3, 1)], 0), ([(48, 1), (4, (-1))], 0)], [kR 0, kR 3, kI 0, kI 1, kI 46, kI 47, kIc 3], 25), ([], 21))
def xq_585_45 : xCu := (29, [0, 1, 2, 3, 4, 5, 6], ([kc1134, kc218, kc543, kc538], kb239, [([(4, (-1)), (3, 1)], 0), ([(48, (-1)), (3, 1)], 0), ([(48, 1), (4, (-1))], 0)], [kR 0, kR 3, kI 0, kI 1, kI 46, kI 47, kIc 2], 25), ([], 22))
def xq_585_46 : xCu := (29, [0, 1, 2, 3, 4, 5, 6], ([kc1134, kc218, kc543, kc538], kb240, [([(4, (-1)), (3, 1)], 0), ([(48, (-1)), (3, 1)], 0), ([(48, 1), (4, (-1))], 0)], [kR 0, kR 3, kI 0, kI 1, kI 46, kI 47, kIc 1], 25), ([], 23))
def xq_585_47 : xCu := (29, [0, 1, 2, 3, 4, 5, 6], ([kc1135, kc218, kc543, kc538], kb241, [([(4, (-1)), (3, 1)], 0), ([(47, (-1)), (3, 1)], 0), ([(47, 1), (4, (-1))], 0)], [kR 0, kR 3, kI 0, kI 1, kIc 0, kI 46, kIc 0], 25), ([], 24))
def xq_585_48 : xCu := (29, [0, 1, 2, 3, 4, 5, 6], ([kc1128, kc218, kc543, kc538], kb190, [([(4, (-1)), (3, 1)], 0), ([(46, (-1)), (3, 1)], 0), ([(46, 1), (4, (-1))], 0)], [kR 0, kR 3, kI 0, kI 1, kIc 23, kIc 23, kIc 23], 25), ([], 1))
def xq_585_49 : xCu := (29, [0, 1, 2, 3, 4, 5, 6], ([kc1128, kc218, kc543, kc538], kb190, [([(4, (-1)), (3, 1)], 0), ([(46, (-1)), (3, 1)], 0), ([(46, 1), (4, (-1))], 0)], [kR 0, kR 3, kI 0, kI 1, kIc 22, kIc 22, kIc 22], 25), ([], 2))
def xq_585_50 : xCu := (29, [0, 1, 2, 3, 4, 5, 6], ([kc1128, kc218, kc543, kc538], kb190, [([(4, (-1)), (3, 1)], 0), ([(46, (-1)), (3, 1)], 0), ([(46, 1), (4, (-1))], 0)], [kR 0, kR 3, kI 0, kI 1, kIc 21, kIc 21, kIc 21], 25), ([], 3))
def xq_585_51 : xCu := (29, [0, 1, 2, 3, 4, 5, 6], ([kc1128, kc218, kc543, kc538], kb190, [([(4, (-1)), (3, 1)], 0), ([(46, (-1)), (3, 1)], 0), ([(46, 1), (4, (-1))], 0)], [kR 0, kR 3, kI 0, kI 1, kIc 20, kIc 20, kIc 20], 25), ([], 4))
def xq_585_52 : xCu := (29, [0, 1, 2, 3, 4, 5, 6], ([kc1128, kc218, kc543, kc538], kb190, [([(4, (-1)), (3, 1)], 0), ([(46, (-1)), (3, 1)], 0), ([(46, 1), (4, (-1))], 0)], [kR 0, kR 3, kI 0, kI 1, kIc 19, kIc 19, kIc 19], 25), ([], 5))
def xq_585_53 : xCu := (29, [0, 1, 2, 3, 4, 5, 6], ([kc1128, kc218, kc543, kc538], kb190, [([(4, (-1)), (3, 1)], 0), ([(46, (-1)), (3, 1)], 0), ([(46, 1), (4, (-1))], 0)], [kR 0, kR 3, kI 0, kI 1, kIc 18, kIc 18, kIc 18], 25), ([], 6))
def xq_585_54 : xCu := (29, [0, 1, 2, 3, 4, 5, 6], ([kc1128, kc218, kc543, kc538], kb190, [([(4, (-1)), (3, 1)], 0), ([(46, (-1)), (3, 1)], 0), ([(46, 1), (4, (-1))], 0)], [kR 0, kR 3, kI 0, kI 1, kIc 17, kIc 17, kIc 17], 25), ([], 7))
def xq_585_55 : xCu := (29, [0, 1, 2, 3, 4, 5, 6], ([kc1128, kc218, kc543, kc538], kb190, [([(4, (-1)), (3, 1)], 0), ([(46, (-1)), (3, 1)], 0), ([(46, 1), (4, (-1))], 0)], [kR 0, kR 3, kI 0, kI 1, kIc 16, kIc 16, kIc 16], 25), ([], 8))
def xq_585_56 : xCu := (29, [0, 1, 2, 3, 4, 5, 6], ([kc1128, kc218, kc543, kc538], kb190, [([(4, (-1)), (3, 1)], 0), ([(46, (-1)), (3, 1)], 0), ([(46, 1), (4, (-1))], 0)], [kR 0, kR 3, kI 0, kI 1, kIc 15, kIc 15, kIc 15], 25), ([], 9))
def xq_585_57 : xCu := (29, [0, 1, 2, 3, 4, 5, 6], ([kc1128, kc218, kc543, kc538], kb190, [([(4, (-1)), (3, 1)], 0), ([(46, (-1)), (3, 1)], 0), ([(46, 1), (4, (-1))], 0)], [kR 0, kR 3, kI 0, kI 1, kIc 14, kIc 14, kIc 14], 25), ([], 10))
def xq_585_58 : xCu := (29, [0, 1, 2, 3, 4, 5, 6], ([kc1128, kc218, kc543, kc538], kb190, [([(4, (-1)), (3, 1)], 0), ([(46, (-1)), (3, 1)], 0), ([(46, 1), (4, (-1))], 0)], [kR 0, kR 3, kI 0, kI 1, kIc 13, kIc 13, kIc 13], 25), ([], 11))
def xq_585_59 : xCu := (29, [0, 1, 2, 3, 4, 5, 6], ([kc1128, kc218, kc543, kc538], kb190, [([(4, (-1)), (3, 1)], 0), ([(46, (-1)), (3, 1)], 0), ([(46, 1), (4, (-1))], 0)], [kR 0, kR 3, kI 0, kI 1, kIc 12, kIc 12, kIc 12], 25), ([], 12))
def xq_585_60 : xCu := (29, [0, 1, 2, 3, 4, 5, 6], ([kc1128, kc218, kc543, kc538], kb190, [([(4, (-1)), (3, 1)], 0), ([(46, (-1)), (3, 1)], 0), ([(46, 1), (4, (-1))], 0)], [kR 0, kR 3, kI 0, kI 1, kIc 11, kIc 11, kIc 11], 25), ([], 13))
def xq_585_61 : xCu := (29, [0, 1, 2, 3, 4, 5, 6], ([kc1128, kc218, kc543, kc538], kb190, [([(4, (-1)), (3, 1)], 0), ([(46, (-1)), (3, 1)], 0), ([(46, 1), (4, (-1))], 0)], [kR 0, kR 3, kI 0, kI 1, kIc 10, kIc 10, kIc 10], 25), ([], 14))
def xq_585_62 : xCu := (29, [0, 1, 2, 3, 4, 5, 6], ([kc1128, kc218, kc543, kc538], kb190, [([(4, (-1)), (3, 1)], 0), ([(46, (-1)), (3, 1)], 0), ([(46, 1), (4, (-1))], 0)], [kR 0, kR 3, kI 0, kI 1, kIc 9, kIc 9, kIc 9], 25), ([], 15))
def xq_585_63 : xCu := (29, [0, 1, 2, 3, 4, 5, 6], ([kc1128, kc218, kc543, kc538], kb190, [([(4, (-1)), (3, 1)], 0), ([(46, (-1)), (3, 1)], 0), ([(46, 1), (4, (-1))], 0)], [kR 0, kR 3, kI 0, kI 1, kIc 8, kIc 8, kIc 8], 25), ([], 16))
def xq_585_64 : xCu := (29, [0, 1, 2, 3, 4, 5, 6], ([kc1128, kc218, kc543, kc538], kb190, [([(4, (-1)), (3, 1)], 0), ([(46, (-1)), (3, 1)], 0), ([(46, 1), (4, (-1))], 0)], [kR 0, kR 3, kI 0, kI 1, kIc 7, kIc 7, kIc 7], 25), ([], 17))
def xq_585_65 : xCu := (29, [0, 1, 2, 3, 4, 5, 6], ([kc1128, kc218, kc543, kc538], kb190, [([(4, (-1)), (3, 1)], 0), ([(46, (-1)), (3, 1)], 0), ([(46, 1), (4, (-1))], 0)], [kR 0, kR 3, kI 0, kI 1, kIc 6, kIc 6, kIc 6], 25), ([], 18))
def xq_585_66 : xCu := (29, [0, 1, 2, 3, 4, 5, 6], ([kc1128, kc218, kc543, kc538], kb190, [([(4, (-1)), (3, 1)], 0), ([(46, (-1)), (3, 1)], 0), ([(46, 1), (4, (-1))], 0)], [kR 0, kR 3, kI 0, kI 1, kIc 5, kIc 5, kIc 5], 25), ([], 19))
def xq_585_67 : xCu := (29, [0, 1, 2, 3, 4, 5, 6], ([kc1128, kc218, kc543, kc538], kb190, [([(4, (-1)), (3, 1)], 0), ([(46, (-1)), (3, 1)], 0), ([(46, 1), (4, (-1))], 0)], [kR 0, kR 3, kI 0, kI 1, kIc 4, kIc 4, kIc 4], 25), ([], 20))
def xq_585_68 : xCu := (29, [0, 1, 2, 3, 4, 5, 6], ([kc1128, kc218, kc543, kc538], kb190, [([(4, (-1)), (3, 1)], 0), ([(46, (-1)), (3, 1)], 0), ([(46, 1), (4, (-1))], 0)], [kR 0, kR 3, kI 0, kI 1, kIc 3, kIc 3, kIc 3], 25), ([], 21))
def xq_585_69 : xCu := (29, [0, 1, 2, 3, 4, 5, 6], ([kc1128, kc218, kc543, kc538], kb190, [([(4, (-1)), (3, 1)], 0), ([(46, (-1)), (3, 1)], 0), ([(46, 1), (4, (-1))], 0)], [kR 0, kR 3, kI 0, kI 1, kIc 2, kIc 2, kIc 2], 25), ([], 22))
def xq_585_70 : xCu := (29, [0, 1, 2, 3, 4, 5, 6], ([kc1128, kc218, kc543, kc538], kb190, [([(4, (-1)), (3, 1)], 0), ([(46, (-1)), (3, 1)], 0), ([(46, 1), (4, (-1))], 0)], [kR 0, kR 3, kI 0, kI 1, kIc 1, kIc 1, kIc 1], 25), ([], 23))
def xq_585_71 : xCu := (29, [0, 1, 2, 3, 4, 5, 6], ([kc1128, kc218, kc543, kc538], kb190, [([(4, (-1)), (3, 1)], 0), ([(46, (-1)), (3, 1)], 0), ([(46, 1), (4, (-1))], 0)], [kR 0, kR 3, kI 0, kI 1, kIc 0, kIc 0, kIc 0], 25), ([], 24))
def xq_585_72 : xCu := (29, [0, 1, 2, 3, 4, 5, 6], ([kc1133, kc218, kc543, kc538], kb217, [([(4, (-1)), (3, 1)], 0), ([(47, (-1)), (3, 1)], 0), ([(47, 1), (4, (-1))], (-1))], [kR 0, kR 3, kI 0, kI 1, kI 46, kIc 23, kIc 24], 25), ([], 0))
def xq_585_73 : xCu := (29, [0, 1, 2, 3, 4, 5, 6], ([kc1135, kc218, kc543, kc538], kb241, [([(4, (-1)), (3, 1)], 0), ([(47, (-1)), (3, 1)], 0), ([(47, 1), (4, (-1))], 0)], [kR 0, kR 3, kI 0, kI 1, kI 46, kIc 23, kIc 24], 25), ([], 0))
def xc_585 : xCt := (([kc1131, kc218, kc543, kc538], kb193, [([(4, (-1)), (3, 1)], 0)], [kR 0, kR 3, kI 0, kI 1], 25), [xe_585_0, xe_585_1, xe_585_2], 5)
def xu_585 : List xCu := [xq_585_0,
  xq_585_1,
  xq_585_2,
  xq_585_3,
  xq_585_4,
  xq_585_5,
  xq_585_6,
  xq_585_7,
  xq_585_8,
  xq_585_9,
  xq_585_10,
  xq_585_11,
  xq_585_12,
  xq_585_13,
  xq_585_14,
  xq_585_15,
  xq_585_16,
  xq_585_17,
  xq_585_18,
  xq_585_19,
  xq_585_20,
  xq_585_21,
  xq_585_22,
  xq_585_23,
  xq_585_24,
  xq_585_25,
  xq_585_26,
  xq_585_27,
  xq_585_28,
  xq_585_29,
  xq_585_30,
  xq_585_31,
  xq_585_32,
  xq_585_33,
  xq_585_34,
  xq_585_35,
  xq_585_36,
  xq_585_37,
  xq_585_38,
  xq_585_39,
  xq_585_40,
  xq_585_41,
  xq_585_42,
  xq_585_43,
  xq_585_44,
  xq_585_45,
  xq_585_46,
  xq_585_47,
  xq_585_48,
  xq_585_49,
  xq_585_50,
  xq_585_51,
  xq_585_52,
  xq_585_53,
  xq_585_54,
  xq_585_55,
  xq_585_56,
  xq_585_57,
  xq_585_58,
  xq_585_59,
  xq_585_60,
  xq_585_61,
  xq_585_62,
  xq_585_63,
  xq_585_64,
  xq_585_65,
  xq_585_66,
  xq_585_67,
  xq_585_68,
  xq_585_69,
  xq_585_70,
  xq_585_71,
  xq_585_72,
  xq_585_73]
def xT_585 : List (Nat × xCt) := [(201, xc_574)]
theorem xn_585 : Nat.ble (xsum xc_585.1.2.2.2.1) xm_X10_spanLine.nl = true := by decide +kernel
theorem xv_585_0 : xStP xT_585 xHt 100000 209 xm_X10_spanLine xc_585 xu_585 [] 0 18 = true := by
  rw [← zStP_eq]
  decide +kernel
theorem xv_585_18 : xStP xT_585 xHt 100000 209 xm_X10_spanLine xc_585 xu_585 [] 18 18 = true := by
  rw [← zStP_eq]
  decide +kernel
theorem xv_585_36 : xStP xT_585 xHt 100000 209 xm_X10_spanLine xc_585 xu_585 [] 36 18 = true := by
  rw [← zStP_eq]
  decide +kernel
theorem xv_585_54 : xStP xT_585 xHt 100000 209 xm_X10_spanLine xc_585 xu_585 [] 54 18 = true := by
  rw [← zStP_eq]
  decide +kernel
theorem xv_585_72 : xStP xT_585 xHt 100000 209 xm_X10_spanLine xc_585 xu_585 [] 72 18 = true := by
  rw [← zStP_eq]
  decide +kernel
theorem xv_585_90 : xStP xT_585 xHt 100000 209 xm_X10_spanLine xc_585 xu_585 [] 90 18 = true := by
  rw [← zStP_eq]
  decide +kernel
theorem xv_585_108 : xStP xT_585 xHt 100000 209 xm_X10_spanLine xc_585 xu_585 [] 108 18 = true := by
  rw [← zStP_eq]
  decide +kernel
theorem xv_585_126 : xStP xT_585 xHt 100000 209 xm_X10_spanLine xc_585 xu_585 [] 126 18 = true := by
  rw [← zStP_eq]
  decide +kernel
theorem xv_585_144 : xStP xT_585 xHt 100000 209 xm_X10_spanLine xc_585 xu_585 [] 144 18 = true := by
  rw [← zStP_eq]
  decide +kernel
theorem xz_585 : xStL xT_585 xHt 100000 209 xm_X10_spanLine xc_585 xu_585 162 = true := by
  rw [← zStL_eq]
  decide +kernel
theorem xw_585_0 : ((xu_585.drop 0).take 1).all (xVerCs xT_585 xHt 100000 209 xm_X10_spanLine xc_585 xu_585 [2] [72]) = true := by
  rw [← zVerCs_eq]
  decide +kernel
theorem xw_585_1 : ((xu_585.drop 1).take 1).all (xVerCs xT_585 xHt 100000 209 xm_X10_spanLine xc_585 xu_585 [2] [0]) = true := by
  rw [← zVerCs_eq]
  decide +kernel
theorem xw_585_2 : ((xu_585.drop 2).take 1).all (xVerCs xT_585 xHt 100000 209 xm_X10_spanLine xc_585 xu_585 [2] [1]) = true := by
  rw [← zVerCs_eq]
  decide +kernel
theorem xw_585_3 : ((xu_585.drop 3).take 1).all (xVerCs xT_585 xHt 100000 209 xm_X10_spanLine xc_585 xu_585 [2] [2]) = true := by
  rw [← zVerCs_eq]
  decide +kernel
theorem xw_585_4 : ((xu_585.drop 4).take 1).all (xVerCs xT_585 xHt 100000 209 xm_X10_spanLine xc_585 xu_585 [2] [3]) = true := by
  rw [← zVerCs_eq]
  decide +kernel
theorem xw_585_5 : ((xu_585.drop 5).take 1).all (xVerCs xT_585 xHt 100000 209 xm_X10_spanLine xc_585 xu_585 [2] [4]) = true := by
  rw [← zVerCs_eq]
  decide +kernel
theorem xw_585_6 : ((xu_585.drop 6).take 1).all (xVerCs xT_585 xHt 100000 209 xm_X10_spanLine xc_585 xu_585 [2] [5]) = true := by
  rw [← zVerCs_eq]
  decide +kernel
theorem xw_585_7 : ((xu_585.drop 7).take 1).all (xVerCs xT_585 xHt 100000 209 xm_X10_spanLine xc_585 xu_585 [2] [6]) = true := by
  rw [← zVerCs_eq]
  decide +kernel
theorem xw_585_8 : ((xu_585.drop 8).take 1).all (xVerCs xT_585 xHt 100000 209 xm_X10_spanLine xc_585 xu_585 [2] [7]) = true := by
  rw [← zVerCs_eq]
  decide +kernel
theorem xw_585_9 : ((xu_585.drop 9).take 1).all (xVerCs xT_585 xHt 100000 209 xm_X10_spanLine xc_585 xu_585 [2] [8]) = true := by
  rw [← zVerCs_eq]
  decide +kernel
theorem xw_585_10 : ((xu_585.drop 10).take 1).all (xVerCs xT_585 xHt 100000 209 xm_X10_spanLine xc_585 xu_585 [2] [9]) = true := by
  rw [← zVerCs_eq]
  decide +kernel
theorem xw_585_11 : ((xu_585.drop 11).take 1).all (xVerCs xT_585 xHt 100000 209 xm_X10_spanLine xc_585 xu_585 [2] [10]) = true := by
  rw [← zVerCs_eq]
  decide +kernel
theorem xw_585_12 : ((xu_585.drop 12).take 1).all (xVerCs xT_585 xHt 100000 209 xm_X10_spanLine xc_585 xu_585 [2] [11]) = true := by
  rw [← zVerCs_eq]
  decide +kernel
theorem xw_585_13 : ((xu_585.drop 13).take 1).all (xVerCs xT_585 xHt 100000 209 xm_X10_spanLine xc_585 xu_585 [2] [12]) = true := by
  rw [← zVerCs_eq]
  decide +kernel
theorem xw_585_14 : ((xu_585.drop 14).take 1).all (xVerCs xT_585 xHt 100000 209 xm_X10_spanLine xc_585 xu_585 [2] [13]) = true := by
  rw [← zVerCs_eq]
  decide +kernel
theorem xw_585_15 : ((xu_585.drop 15).take 1).all (xVerCs xT_585 xHt 100000 209 xm_X10_spanLine xc_585 xu_585 [2] [14]) = true := by
  rw [← zVerCs_eq]
  decide +kernel
theorem xw_585_16 : ((xu_585.drop 16).take 1).all (xVerCs xT_585 xHt 100000 209 xm_X10_spanLine xc_585 xu_585 [2] [15]) = true := by
  rw [← zVerCs_eq]
  decide +kernel
theorem xw_585_17 : ((xu_585.drop 17).take 1).all (xVerCs xT_585 xHt 100000 209 xm_X10_spanLine xc_585 xu_585 [2] [16]) = true := by
  rw [← zVerCs_eq]
  decide +kernel
theorem xw_585_18 : ((xu_585.drop 18).take 1).all (xVerCs xT_585 xHt 100000 209 xm_X10_spanLine xc_585 xu_585 [2] [17]) = true := by
  rw [← zVerCs_eq]
  decide +kernel
theorem xw_585_19 : ((xu_585.drop 19).take 1).all (xVerCs xT_585 xHt 100000 209 xm_X10_spanLine xc_585 xu_585 [2] [18]) = true := by
  rw [← zVerCs_eq]
  decide +kernel
theorem xw_585_20 : ((xu_585.drop 20).take 1).all (xVerCs xT_585 xHt 100000 209 xm_X10_spanLine xc_585 xu_585 [2] [19]) = true := by
  rw [← zVerCs_eq]
  decide +kernel
theorem xw_585_21 : ((xu_585.drop 21).take 1).all (xVerCs xT_585 xHt 100000 209 xm_X10_spanLine xc_585 xu_585 [2] [20]) = true := by
  rw [← zVerCs_eq]
  decide +kernel
theorem xw_585_22 : ((xu_585.drop 22).take 1).all (xVerCs xT_585 xHt 100000 209 xm_X10_spanLine xc_585 xu_585 [2] [21]) = true := by
  rw [← zVerCs_eq]
  decide +kernel
theorem xw_585_23 : ((xu_585.drop 23).take 1).all (xVerCs xT_585 xHt 100000 209 xm_X10_spanLine xc_585 xu_585 [] [22]) = true := by
  rw [← zVerCs_eq]
  decide +kernel
theorem xw_585_24 : ((xu_585.drop 24).take 1).all (xVerCs xT_585 xHt 100000 209 xm_X10_spanLine xc_585 xu_585 [1] [73]) = true := by
  rw [← zVerCs_eq]
  decide +kernel
theorem xw_585_25 : ((xu_585.drop 25).take 1).all (xVerCs xT_585 xHt 100000 209 xm_X10_spanLine xc_585 xu_585 [1] [24]) = true := by
  rw [← zVerCs_eq]
  decide +kernel
theorem xw_585_26 : ((xu_585.drop 26).take 1).all (xVerCs xT_585 xHt 100000 209 xm_X10_spanLine xc_585 xu_585 [1] [25]) = true := by
  rw [← zVerCs_eq]
  decide +kernel
theorem xw_585_27 : ((xu_585.drop 27).take 1).all (xVerCs xT_585 xHt 100000 209 xm_X10_spanLine xc_585 xu_585 [1] [26]) = true := by
  rw [← zVerCs_eq]
  decide +kernel
theorem xw_585_28 : ((xu_585.drop 28).take 1).all (xVerCs xT_585 xHt 100000 209 xm_X10_spanLine xc_585 xu_585 [1] [27]) = true := by
  rw [← zVerCs_eq]
  decide +kernel
theorem xw_585_29 : ((xu_585.drop 29).take 1).all (xVerCs xT_585 xHt 100000 209 xm_X10_spanLine xc_585 xu_585 [1] [28]) = true := by
  rw [← zVerCs_eq]
  decide +kernel
theorem xw_585_30 : ((xu_585.drop 30).take 1).all (xVerCs xT_585 xHt 100000 209 xm_X10_spanLine xc_585 xu_585 [1] [29]) = true := by
  rw [← zVerCs_eq]
  decide +kernel
theorem xw_585_31 : ((xu_585.drop 31).take 1).all (xVerCs xT_585 xHt 100000 209 xm_X10_spanLine xc_585 xu_585 [1] [30]) = true := by
  rw [← zVerCs_eq]
  decide +kernel
theorem xw_585_32 : ((xu_585.drop 32).take 1).all (xVerCs xT_585 xHt 100000 209 xm_X10_spanLine xc_585 xu_585 [1] [31]) = true := by
  rw [← zVerCs_eq]
  decide +kernel
theorem xw_585_33 : ((xu_585.drop 33).take 1).all (xVerCs xT_585 xHt 100000 209 xm_X10_spanLine xc_585 xu_585 [1] [32]) = true := by
  rw [← zVerCs_eq]
  decide +kernel
theorem xw_585_34 : ((xu_585.drop 34).take 1).all (xVerCs xT_585 xHt 100000 209 xm_X10_spanLine xc_585 xu_585 [1] [33]) = true := by
  rw [← zVerCs_eq]
  decide +kernel
theorem xw_585_35 : ((xu_585.drop 35).take 1).all (xVerCs xT_585 xHt 100000 209 xm_X10_spanLine xc_585 xu_585 [1] [34]) = true := by
  rw [← zVerCs_eq]
  decide +kernel
theorem xw_585_36 : ((xu_585.drop 36).take 1).all (xVerCs xT_585 xHt 100000 209 xm_X10_spanLine xc_585 xu_585 [1] [35]) = true := by
  rw [← zVerCs_eq]
  decide +kernel
theorem xw_585_37 : ((xu_585.drop 37).take 1).all (xVerCs xT_585 xHt 100000 209 xm_X10_spanLine xc_585 xu_585 [1] [36]) = true := by
  rw [← zVerCs_eq]
  decide +kernel
theorem xw_585_38 : ((xu_585.drop 38).take 1).all (xVerCs xT_585 xHt 100000 209 xm_X10_spanLine xc_585 xu_585 [1] [37]) = true := by
  rw [← zVerCs_eq]
  decide +kernel
theorem xw_585_39 : ((xu_585.drop 39).take 1).all (xVerCs xT_585 xHt 100000 209 xm_X10_spanLine xc_585 xu_585 [1] [38]) = true := by
  rw [← zVerCs_eq]
  decide +kernel
theorem xw_585_40 : ((xu_585.drop 40).take 1).all (xVerCs xT_585 xHt 100000 209 xm_X10_spanLine xc_585 xu_585 [1] [39]) = true := by
  rw [← zVerCs_eq]
  decide +kernel
theorem xw_585_41 : ((xu_585.drop 41).take 1).all (xVerCs xT_585 xHt 100000 209 xm_X10_spanLine xc_585 xu_585 [1] [40]) = true := by
  rw [← zVerCs_eq]
  decide +kernel
theorem xw_585_42 : ((xu_585.drop 42).take 1).all (xVerCs xT_585 xHt 100000 209 xm_X10_spanLine xc_585 xu_585 [1] [41]) = true := by
  rw [← zVerCs_eq]
  decide +kernel
theorem xw_585_43 : ((xu_585.drop 43).take 1).all (xVerCs xT_585 xHt 100000 209 xm_X10_spanLine xc_585 xu_585 [1] [42]) = true := by
  rw [← zVerCs_eq]
  decide +kernel
theorem xw_585_44 : ((xu_585.drop 44).take 1).all (xVerCs xT_585 xHt 100000 209 xm_X10_spanLine xc_585 xu_585 [1] [43]) = true := by
  rw [← zVerCs_eq]
  decide +kernel
theorem xw_585_45 : ((xu_585.drop 45).take 1).all (xVerCs xT_585 xHt 100000 209 xm_X10_spanLine xc_585 xu_585 [1] [44]) = true := by
  rw [← zVerCs_eq]
  decide +kernel
theorem xw_585_46 : ((xu_585.drop 46).take 1).all (xVerCs xT_585 xHt 100000 209 xm_X10_spanLine xc_585 xu_585 [1] [45]) = true := by
  rw [← zVerCs_eq]
  decide +kernel
theorem xw_585_47 : ((xu_585.drop 47).take 1).all (xVerCs xT_585 xHt 100000 209 xm_X10_spanLine xc_585 xu_585 [] [46]) = true := by
  rw [← zVerCs_eq]
  decide +kernel
theorem xw_585_48 : ((xu_585.drop 48).take 1).all (xVerCs xT_585 xHt 100000 209 xm_X10_spanLine xc_585 xu_585 [0] []) = true := by
  rw [← zVerCs_eq]
  decide +kernel
theorem xw_585_49 : ((xu_585.drop 49).take 1).all (xVerCs xT_585 xHt 100000 209 xm_X10_spanLine xc_585 xu_585 [0] []) = true := by
  rw [← zVerCs_eq]
  decide +kernel
theorem xw_585_50 : ((xu_585.drop 50).take 1).all (xVerCs xT_585 xHt 100000 209 xm_X10_spanLine xc_585 xu_585 [0] []) = true := by
  rw [← zVerCs_eq]
  decide +kernel
theorem xw_585_51 : ((xu_585.drop 51).take 1).all (xVerCs xT_585 xHt 100000 209 xm_X10_spanLine xc_585 xu_585 [0] []) = true := by
  rw [← zVerCs_eq]
  decide +kernel
theorem xw_585_52 : ((xu_585.drop 52).take 1).all (xVerCs xT_585 xHt 100000 209 xm_X10_spanLine xc_585 xu_585 [0] []) = true := by
  rw [← zVerCs_eq]
  decide +kernel
theorem xw_585_53 : ((xu_585.drop 53).take 1).all (xVerCs xT_585 xHt 100000 209 xm_X10_spanLine xc_585 xu_585 [0] []) = true := by
  rw [← zVerCs_eq]
  decide +kernel
theorem xw_585_54 : ((xu_585.drop 54).take 1).all (xVerCs xT_585 xHt 100000 209 xm_X10_spanLine xc_585 xu_585 [0] []) = true := by
  rw [← zVerCs_eq]
  decide +kernel
theorem xw_585_55 : ((xu_585.drop 55).take 1).all (xVerCs xT_585 xHt 100000 209 xm_X10_spanLine xc_585 xu_585 [0] []) = true := by
  rw [← zVerCs_eq]
  decide +kernel
theorem xw_585_56 : ((xu_585.drop 56).take 1).all (xVerCs xT_585 xHt 100000 209 xm_X10_spanLine xc_585 xu_585 [0] []) = true := by
  rw [← zVerCs_eq]
  decide +kernel
theorem xw_585_57 : ((xu_585.drop 57).take 1).all (xVerCs xT_585 xHt 100000 209 xm_X10_spanLine xc_585 xu_585 [0] []) = true := by
  rw [← zVerCs_eq]
  decide +kernel
theorem xw_585_58 : ((xu_585.drop 58).take 1).all (xVerCs xT_585 xHt 100000 209 xm_X10_spanLine xc_585 xu_585 [0] []) = true := by
  rw [← zVerCs_eq]
  decide +kernel
theorem xw_585_59 : ((xu_585.drop 59).take 1).all (xVerCs xT_585 xHt 100000 209 xm_X10_spanLine xc_585 xu_585 [0] []) = true := by
  rw [← zVerCs_eq]
  decide +kernel
theorem xw_585_60 : ((xu_585.drop 60).take 1).all (xVerCs xT_585 xHt 100000 209 xm_X10_spanLine xc_585 xu_585 [0] []) = true := by
  rw [← zVerCs_eq]
  decide +kernel
theorem xw_585_61 : ((xu_585.drop 61).take 1).all (xVerCs xT_585 xHt 100000 209 xm_X10_spanLine xc_585 xu_585 [0] []) = true := by
  rw [← zVerCs_eq]
  decide +kernel
theorem xw_585_62 : ((xu_585.drop 62).take 1).all (xVerCs xT_585 xHt 100000 209 xm_X10_spanLine xc_585 xu_585 [0] []) = true := by
  rw [← zVerCs_eq]
  decide +kernel
theorem xw_585_63 : ((xu_585.drop 63).take 1).all (xVerCs xT_585 xHt 100000 209 xm_X10_spanLine xc_585 xu_585 [0] []) = true := by
  rw [← zVerCs_eq]
  decide +kernel
theorem xw_585_64 : ((xu_585.drop 64).take 1).all (xVerCs xT_585 xHt 100000 209 xm_X10_spanLine xc_585 xu_585 [0] []) = true := by
  rw [← zVerCs_eq]
  decide +kernel
theorem xw_585_65 : ((xu_585.drop 65).take 1).all (xVerCs xT_585 xHt 100000 209 xm_X10_spanLine xc_585 xu_585 [0] []) = true := by
  rw [← zVerCs_eq]
  decide +kernel
theorem xw_585_66 : ((xu_585.drop 66).take 1).all (xVerCs xT_585 xHt 100000 209 xm_X10_spanLine xc_585 xu_585 [0] []) = true := by
  rw [← zVerCs_eq]
  decide +kernel
theorem xw_585_67 : ((xu_585.drop 67).take 1).all (xVerCs xT_585 xHt 100000 209 xm_X10_spanLine xc_585 xu_585 [0] []) = true := by
  rw [← zVerCs_eq]
  decide +kernel
theorem xw_585_68 : ((xu_585.drop 68).take 1).all (xVerCs xT_585 xHt 100000 209 xm_X10_spanLine xc_585 xu_585 [0] []) = true := by
  rw [← zVerCs_eq]
  decide +kernel
theorem xw_585_69 : ((xu_585.drop 69).take 1).all (xVerCs xT_585 xHt 100000 209 xm_X10_spanLine xc_585 xu_585 [0] []) = true := by
  rw [← zVerCs_eq]
  decide +kernel
theorem xw_585_70 : ((xu_585.drop 70).take 1).all (xVerCs xT_585 xHt 100000 209 xm_X10_spanLine xc_585 xu_585 [0] []) = true := by
  rw [← zVerCs_eq]
  decide +kernel
theorem xw_585_71 : ((xu_585.drop 71).take 1).all (xVerCs xT_585 xHt 100000 209 xm_X10_spanLine xc_585 xu_585 [0] []) = true := by
  rw [← zVerCs_eq]
  decide +kernel
theorem xw_585_72 : ((xu_585.drop 72).take 1).all (xVerCs xT_585 xHt 100000 209 xm_X10_spanLine xc_585 xu_585 [2] []) = true := by
  rw [← zVerCs_eq]
  decide +kernel
theorem xw_585_73 : ((xu_585.drop 73).take 1).all (xVerCs xT_585 xHt 100000 209 xm_X10_spanLine xc_585 xu_585 [1] []) = true := by
  rw [← zVerCs_eq]
  decide +kernel
theorem xok_585 (l : Launch) : xCk l 209 xc_585 := ⟨xm_X10_spanLine, rfl, xVer_ok xk_all (xHt_ok l) (T := xT_585) (xTc (xok_574 l) (xTn l)) rfl (f := 100000) (cuts := xu_585) (xStE (es := []) xn_585 (xStS xv_585_0 (xStS xv_585_18 (xStS xv_585_36 (xStS xv_585_54 (xStS xv_585_72 (xStS xv_585_90 (xStS xv_585_108 (xStS xv_585_126 (xStS xv_585_144 (xStZ xz_585))))))))))) (xAll0 (xAllS 0 1 (xAllCs xw_585_0) (xAllS 1 1 (xAllCs xw_585_1) (xAllS 2 1 (xAllCs xw_585_2) (xAllS 3 1 (xAllCs xw_585_3) (xAllS 4 1 (xAllCs xw_585_4) (xAllS 5 1 (xAllCs xw_585_5) (xAllS 6 1 (xAllCs xw_585_6) (xAllS 7 1 (xAllCs xw_585_7) (xAllS 8 1 (xAllCs xw_585_8) (xAllS 9 1 (xAllCs xw_585_9) (xAllS 10 1 (xAllCs xw_585_10) (xAllS 11 1 (xAllCs xw_585_11) (xAllS 12 1 (xAllCs xw_585_12) (xAllS 13 1 (xAllCs xw_585_13) (xAllS 14 1 (xAllCs xw_585_14) (xAllS 15 1 (xAllCs xw_585_15) (xAllS 16 1 (xAllCs xw_585_16) (xAllS 17 1 (xAllCs xw_585_17) (xAllS 18 1 (xAllCs xw_585_18) (xAllS 19 1 (xAllCs xw_585_19) (xAllS 20 1 (xAllCs xw_585_20) (xAllS 21 1 (xAllCs xw_585_21) (xAllS 22 1 (xAllCs xw_585_22) (xAllS 23 1 (xAllCs xw_585_23) (xAllS 24 1 (xAllCs xw_585_24) (xAllS 25 1 (xAllCs xw_585_25) (xAllS 26 1 (xAllCs xw_585_26) (xAllS 27 1 (xAllCs xw_585_27) (xAllS 28 1 (xAllCs xw_585_28) (xAllS 29 1 (xAllCs xw_585_29) (xAllS 30 1 (xAllCs xw_585_30) (xAllS 31 1 (xAllCs xw_585_31) (xAllS 32 1 (xAllCs xw_585_32) (xAllS 33 1 (xAllCs xw_585_33) (xAllS 34 1 (xAllCs xw_585_34) (xAllS 35 1 (xAllCs xw_585_35) (xAllS 36 1 (xAllCs xw_585_36) (xAllS 37 1 (xAllCs xw_585_37) (xAllS 38 1 (xAllCs xw_585_38) (xAllS 39 1 (xAllCs xw_585_39) (xAllS 40 1 (xAllCs xw_585_40) (xAllS 41 1 (xAllCs xw_585_41) (xAllS 42 1 (xAllCs xw_585_42) (xAllS 43 1 (xAllCs xw_585_43) (xAllS 44 1 (xAllCs xw_585_44) (xAllS 45 1 (xAllCs xw_585_45) (xAllS 46 1 (xAllCs xw_585_46) (xAllS 47 1 (xAllCs xw_585_47) (xAllS 48 1 (xAllCs xw_585_48) (xAllS 49 1 (xAllCs xw_585_49) (xAllS 50 1 (xAllCs xw_585_50) (xAllS 51 1 (xAllCs xw_585_51) (xAllS 52 1 (xAllCs xw_585_52) (xAllS 53 1 (xAllCs xw_585_53) (xAllS 54 1 (xAllCs xw_585_54) (xAllS 55 1 (xAllCs xw_585_55) (xAllS 56 1 (xAllCs xw_585_56) (xAllS 57 1 (xAllCs xw_585_57) (xAllS 58 1 (xAllCs xw_585_58) (xAllS 59 1 (xAllCs xw_585_59) (xAllS 60 1 (xAllCs xw_585_60) (xAllS 61 1 (xAllCs xw_585_61) (xAllS 62 1 (xAllCs xw_585_62) (xAllS 63 1 (xAllCs xw_585_63) (xAllS 64 1 (xAllCs xw_585_64) (xAllS 65 1 (xAllCs xw_585_65) (xAllS 66 1 (xAllCs xw_585_66) (xAllS 67 1 (xAllCs xw_585_67) (xAllS 68 1 (xAllCs xw_585_68) (xAllS 69 1 (xAllCs xw_585_69) (xAllS 70 1 (xAllCs xw_585_70) (xAllS 71 1 (xAllCs xw_585_71) (xAllS 72 1 (xAllCs xw_585_72) (xAllS 73 1 (xAllCs xw_585_73) (xAllZ (by decide +kernel)))))))))))))))))))))))))))))))))))))))))))))))))))))))))))))))))))))))))))))⟩
