/-! Contracts, printed by a program: part 34. -/
def kc935 : xC := kAr 0 55 [(1, kS 10), (5, kB3), (1, kS 11), (1, kS 12), (3, kB3), (1, kS 13), (5, kB3), (1, kS 14), (1, kS 15), (3, kB3), (1, kS 16), (5, kB3), (1, kS 17), (1, kS 18), (3, kB3), (1, kS 19), (5, kB3), (1, kS 20), (1, kS 21), (3, kB3), (1, kS 22), (5, kB3), (1, kS 23), (1, kS 24), (1, kS 25), (1, kSc 3), (1, kB3)]
def xe_581_0 : xPt := ([kc877, kc185, kc935, kc910], kb86, [([(45, (-1)), (1, 1)], 0), ([(45, 1), (2, (-1))], 0)], [], 25)
def xe_581_1 : xPt := ([kc880, kc185, kc935, kc489], kb87, [([(45, (-1)), (1, 1)], 0), ([(45, 1), (2, (-1))], 0)], [], 25)
def xe_581_2 : xPt := ([kc882, kc185, kc935, kc489], kb88, [([(45, (-1)), (1, 1)], 0), ([(45, 1), (2, (-1))], (-1))], [], 25)
def kc936 : xC := kAr 0 120 [(119, kB 0 9), (1, kB 0 6)]
def kc937 : xC := kAr 0 120 [(118, kB 0 9), (2, kB 0 6)]
def kc938 : xC := kAr 0 120 [(117, kB 0 9), (3, kB 0 6)]
def kc939 : xC := kAr 0 120 [(116, kB 0 9), (4, kB 0 6)]
def kc940 : xC := kAr 0 120 [(115, kB 0 9), (5, kB 0 6)]
def kc941 : xC := kAr 0 120 [(114, kB 0 9), (6, kB 0 6)]
def kc942 : xC := kAr 0 120 [(113, kB 0 9), (7, kB 0 6)]
def kc943 : xC := kAr 0 120 [(112, kB 0 9), (8, kB 0 6)]
def kc944 : xC := kAr 0 120 [(111, kB 0 9), (9, kB 0 6)]
def kc945 : xC := kAr 0 120 [(110, kB 0 9), (10, kB 0 6)]
def kc946 : xC := kAr 0 120 [(109, kB 0 9), (11, kB 0 6)]
def kc947 : xC := kAr 0 120 [(108, kB 0 9), (12, kB 0 6)]
def kc948 : xC := kAr 0 120 [(107, kB 0 9), (13, kB 0 6)]
def kc949 : xC := kAr 0 120 [(106, kB 0 9), (14, kB 0 6)]
def kc950 : xC := kAr 0 120 [(105, kB 0 9), (15, kB 0 6)]
def kc951 : xC := kAr 0 120 [(104, kB 0 9), (16, kB 0 6)]
def kc952 : xC := kAr 0 120 [(103, kB 0 9), (17, kB 0 6)]
def kc953 : xC := kAr 0 120 [(102, kB 0 9), (18, kB 0 6)]
def kc954 : xC := kAr 0 120 [(101, kB 0 9), (19, kB 0 6)]
def kc955 : xC := kAr 0 120 [(100, kB 0 9), (20, kB 0 6)]
def kc956 : xC := kAr 0 120 [(99, kB 0 9), (21, kB 0 6)]
def kc957 : xC := kAr 0 120 [(98, kB 0 9), (22, kB 0 6)]
def kc958 : xC := kAr 0 120 [(97, kB 0 9), (23, kB 0 6)]
def kc959 : xC := kAr 0 120 [(119, kB 0 9), (1, kB 1 9)]
def xq_581_0 : xCu := (29, [0, 1, 2, 3, 4, 5, 6], ([kc882, kc185, kc909, kc936], kb90, [([(2, (-1)), (1, 1)], 0), ([(45, (-1)), (1, 1)], 0), ([(45, 1), (2, (-1))], (-1))], [kR 0, kR 3, kI 43, kI 44, kI 48, kI 49, kIc 23], 25), ([], 1))
def xq_581_1 : xCu := (29, [0, 1, 2, 3, 4, 5, 6], ([kc882, kc185, kc909, kc937], kb91, [([(2, (-1)), (1, 1)], 0), ([(45, (-1)), (1, 1)], 0), ([(45, 1), (2, (-1))], (-1))], [kR 0, kR 3, kI 43, kI 44, kI 48, kI 49, kIc 22], 25), ([], 2))
def xq_581_2 : xCu := (29, [0, 1, 2, 3, 4, 5, 6], ([kc882, kc185, kc909, kc938], kb92, [([(2, (-1)), (1, 1)], 0), ([(45, (-1)), (1, 1)], 0), ([(45, 1), (2, (-1))], (-1))], [kR 0, kR 3, kI 43, kI 44, kI 48, kI 49, kIc 21], 25), ([], 3))
def xq_581_3 : xCu := (29, [0, 1, 2, 3, 4, 5, 6], ([kc882, kc185, kc909, kc939], kb93, [([(2, (-1)), (1, 1)], 0), ([(45, (-1)), (1, 1)], 0), ([(45, 1), (2, (-1))], (-1))], [kR 0, kR 3, kI 43, kI 44, kI 48, kI 49, kIc 20], 25), ([], 4))
def xq_581_4 : xCu := (29, [0, 1, 2, 3, 4, 5, 6], ([kc882, kc185, kc909, kc940], kb94, [([(2, (-1)), (1, 1)], 0), ([(45, (-1)), (1, 1)], 0), ([(45, 1), (2, (-1))], (-1))], [kR 0, kR 3, kI 43, kI 44, kI 48, kI 49, kIc 19], 25), ([], 5))
def xq_581_5 : xCu := (29, [0, 1, 2, 3, 4, 5, 6], ([kc882, kc185, kc909, kc941], kb95, [([(2, (-1)), (1, 1)], 0), ([(45, (-1)), (1, 1)], 0), ([(45, 1), (2, (-1))], (-1))], [kR 0, kR 3, kI 43, kI 44, kI 48, kI 49, kIc 18], 25), ([], 6))
def xq_581_6 : xCu := (29, [0, 1, 2, 3, 4, 5, 6], ([kc882, kc185, kc909, kc942], kb96, [([(2, (-1)), (1, 1)], 0), ([(45, (-1)), (1, 1)], 0), ([(45, 1), (2, (-1))], (-1))], [kR 0, kR 3, kI 43, kI 44, kI 48, kI 49, kIc 17], 25), ([], 7))
def xq_581_7 : xCu := (29, [0, 1, 2, 3, 4, 5, 6], ([kc882, kc185, kc909, kc943], kb97, [([(2, (-1)), (1, 1)], 0), ([(45, (-1)), (1, 1)], 0), ([(45, 1), (2, (-1))], (-1))], [kR 0, kR 3, kI 43, kI 44, kI 48, kI 49, kIc 16], 25), ([], 8))
def xq_581_8 : xCu := (29, [0, 1, 2, 3, 4, 5, 6], ([kc882, kc185, kc909, kc944], kb98, [([(2, (-1)), (1, 1)], 0), ([(45, (-1)), (1, 1)], 0), ([(45, 1), (2, (-1))], (-1))], [kR 0, kR 3, kI 43, kI 44, kI 48, kI 49, kIc 15], 25), ([], 9))
def xq_581_9 : xCu := (29, [0, 1, 2, 3, 4, 5, 6], ([kc882, kc185, kc909, kc945], kb99, [([(2, (-1)), (1, 1)], 0), ([(45, (-1)), (1, 1)], 0), ([(45, 1), (2, (-1))], (-1))], [kR 0, kR 3, kI 43, kI 44, kI 48, kI 49, kIc 14], 25), ([], 10))
def xq_581_10 : xCu := (29, [0, 1, 2, 3, 4, 5, 6], ([kc882, kc185, kc909, kc946], kb100, [([(2, (-1)), (1, 1)], 0), ([(45, (-1)), (1, 1)], 0), ([(45, 1), (2, (-1))], (-1))], [kR 0, kR 3, kI 43, kI 44, kI 48, kI 49, kIc 13], 25), ([], 11))
def xq_581_11 : xCu := (29, [0, 1, 2, 3, 4, 5, 6], ([kc882, kc185, kc909, kc947], kb101, [([(2, (-1)), (1, 1)], 0), ([(45, (-1)), (1, 1)], 0), ([(45, 1), (2, (-1))], (-1))], [kR 0, kR 3, kI 43, kI 44, kI 48, kI 49, kIc 12], 25), ([], 12))
def xq_581_12 : xCu := (29, [0, 1, 2, 3, 4, 5, 6], ([kc882, kc185, kc909, kc948], kb102, [([(2, (-1)), (1, 1)], 0), ([(45, (-1)), (1, 1)], 0), ([(45, 1), (2, (-1))], (-1))], [kR 0, kR 3, kI 43, kI 44, kI 48, kI 49, kIc 11], 25), ([], 13))
def xq_581_13 : xCu := (29, [0, 1, 2, 3, 4, 5, 6], ([kc882, kc185, kc909, kc949], kb103, [([(2, (-1)), (1, 1)], 0), ([(45, (-1)), (1, 1)], 0), ([(45, 1), (2, (-1))], (-1))], [kR 0, kR 3, kI 43, kI 44, kI 48, kI 49, kIc 10], 25), ([], 14))
def xq_581_14 : xCu := (29, [0, 1, 2, 3, 4, 5, 6], ([kc882, kc185, kc909, kc950], kb104, [([(2, (-1)), (1, 1)], 0), ([(45, (-1)), (1, 1)], 0), ([(45, 1), (2, (-1))], (-1))], [kR 0, kR 3, kI 43, kI 44, kI 48, kI 49, kIc 9], 25), ([], 15))
def xq_581_15 : xCu := (29, [0, 1, 2, 3, 4, 5, 6], ([kc882, kc185, kc909, kc951], kb105, [([(2, (-1)), (1, 1)], 0), ([(45, (-1)), (1, 1)], 0), ([(45, 1), (2, (-1))], (-1))], [kR 0, kR 3, kI 43, kI 44, kI 48, kI 49, kIc 8], 25), ([], 16))
def xq_581_16 : xCu := (29, [0, 1, 2, 3, 4, 5, 6], ([kc882, kc185, kc909, kc952], kb106, [([(2, (-1)), (1, 1)], 0), ([(45, (-1)), (1, 1)], 0), ([(45, 1), (2, (-1))], (-1))], [kR 0, kR 3, kI 43, kI 44, kI 48, kI 49, kIc 7], 25), ([], 17))
def xq_581_17 : xCu := (29, [0, 1, 2, 3, 4, 5, 6], ([kc882, kc185, kc909, kc953], kb107, [([(2, (-1)), (1, 1)], 0), ([(45, (-1)), (1, 1)], 0), ([(45, 1), (2, (-1))], (-1))], [kR 0, kR 3, kI 43, kI 44, kI 48, kI 49, kIc 6], 25), ([], 18))
def xq_581_18 : xCu := (29, [0, 1, 2, 3, 4, 5, 6], ([kc882, kc185, kc909, kc954], kb108, [([(2, (-1)), (1, 1)], 0), ([(45, (-1)), (1, 1)], 0), ([(45, 1), (2, (-1))], (-1))], [kR 0, kR 3, kI 43, kI 44, kI 48, kI 49, kIc 5], 25), ([], 19))
def xq_581_19 : xCu := (29, [0, 1, 2, 3, 4, 5, 6], ([kc882, kc185, kc909, kc955], kb109, [([(2, (-1)), (1, 1)], 0), ([(45, (-1)), (1, 1)], 0), ([(45, 1), (2, (-1))], (-1))], [kR 0, kR 3, kI 43, kI 44, kI 48, kI 49, kIc 4], 25), ([], 20))
def xq_581_20 : xCu := (29, [0, 1, 2, 3, 4, 5, 6], ([kc882, kc185, kc909, kc956], kb110, [([(2, (-1)), (1, 1)], 0), ([(45, (-1)), (1, 1)], 0), ([(45, 1), (2, (-1))], (-1))], [kR 0, kR 3, kI 43, kI 44, kI 48, kI 49, kIc 3], 25), ([], 21))
def xq_581_21 : xCu := (29, [0, 1, 2, 3, 4, 5, 6], ([kc882, kc185, kc909, kc957], kb111, [([(2, (-1)), (1, 1)], 0), ([(45, (-1)), (1, 1)], 0), ([(45, 1), (2, (-1))], (-1))], [kR 0, kR 3, kI 43, kI 44, kI 48, kI 49, kIc 2], 25), ([], 22))
def xq_581_22 : xCu := (29, [0, 1, 2, 3, 4, 5, 6], ([kc882, kc185, kc909, kc958], kb112, [([(2, (-1)), (1, 1)], 0), ([(45, (-1)), (1, 1)], 0), ([(45, 1), (2, (-1))], (-1))], [kR 0, kR 3, kI 43, kI 44, kI 48, kI 49, kIc 1], 25), ([], 23))
def xq_581_23 : xCu := (29, [0, 1, 2, 3, 4, 5, 6], ([kc882, kc185, kc909, kc910], kb113, [([(2, (-1)), (1, 1)], 0), ([(45, (-1)), (1, 1)], 0), ([(45, 1), (2, (-1))], (-1))], [kR 0, kR 3, kI 43, kI 44, kIc 0, kI 48, kIc 0], 25), ([], 24))
def xq_581_24 : xCu := (29, [0, 1, 2, 3, 4, 5, 6], ([kc880, kc185, kc909, kc936], kb114, [([(2, (-1)), (1, 1)], 0), ([(45, (-1)), (1, 1)], 0), ([(45, 1), (2, (-1))], 0)], [kR 0, kR 3, kI 43, kI 44, kI 50, kI 51, kIc 23], 25), ([], 1))
def xq_581_25 : xCu := (29, [0, 1, 2, 3, 4, 5, 6], ([kc880, kc185, kc909, kc937], kb115, [([(2, (-1)), (1, 1)], 0), ([(45, (-1)), (1, 1)], 0), ([(45, 1), (2, (-1))], 0)], [kR 0, kR 3, kI 43, kI 44, kI 50, kI 51, kIc 22], 25), ([], 2))
def xq_581_26 : xCu := (29, [0, 1, 2, 3, 4, 5, 6], ([kc880, kc185, kc909, kc938], kb116, [([(2, (-1)), (1, 1)], 0), ([(45, (-1)), (1, 1)], 0), ([(45, 1), (2, (-1))], 0)], [kR 0, kR 3, kI 43, kI 44, kI 50, kI 51, kIc 21], 25), ([], 3))
def xq_581_27 : xCu := (29, [0, 1, 2, 3, 4, 5, 6], ([kc880, kc185, kc909, kc939], kb117, [([(2, (-1)), (1, 1)], 0), ([(45, (-1)), (1, 1)], 0), ([(45, 1), (2, (-1))], 0)], [kR 0, kR 3, kI 43, kI 44, kI 50, kI 51, kIc 20], 25), ([], 4))
def xq_581_28 : xCu := (29, [0, 1, 2, 3, 4, 5, 6], ([kc880, kc185, kc909, kc940], kb118, [([(2, (-1)), (1, 1)], 0), ([(45, (-1)), (1, 1)], 0), ([(45, 1), (2, (-1))], 0)], [kR 0, kR 3, kI 43, kI 44, kI 50, kI 51, kIc 19], 25), ([], 5))
def xq_581_29 : xCu := (29, [0, 1, 2, 3, 4, 5, 6], ([kc880, kc185, kc909, kc941], kb119, [([(2, (-1)), (1, 1)], 0), ([(45, (-1)), (1, 1)], 0), ([(45, 1), (2, (-1))], 0)], [kR 0, kR 3, kI 43, kI 44, kI 50, kI 51, kIc 18], 25), ([], 6))
def xq_581_30 : xCu := (29, [0, 1, 2, 3, 4, 5, 6], ([kc880, kc185, kc909, kc942], kb120, [([(2, (-1)), (1, 1)], 0), ([(45, (-1)), (1, 1)], 0), ([(45, 1), (2, (-1))], 0)], [kR 0, kR 3, kI 43, kI 44, kI 50, kI 51, kIc 17], 25), ([], 7))
def xq_581_31 : xCu := (29, [0, 1, 2, 3, 4, 5, 6], ([kc880, kc185, kc909, kc943], kb121, [([(2, (-1)), (1, 1)], 0), ([(45, (-1)), (1, 1)], 0), ([(45, 1), (2, (-1))], 0)], [kR 0, kR 3, kI 43, kI 44, kI 50, kI 51, kIc 16], 25), ([], 8))
def xq_581_32 : xCu := (29, [0, 1, 2, 3, 4, 5, 6], ([kc880, kc185, kc909, kc944], kb122, [([(2, (-1)), (1, 1)], 0), ([(45, (-1)), (1, 1)], 0), ([(45, 1), (2, (-1))], 0)], [kR 0, kR 3, kI 43, kI 44, kI 50, kI 51, kIc 15], 25), ([], 9))
def xq_581_33 : xCu := (29, [0, 1, 2, 3, 4, 5, 6], ([kc880, kc185, kc909, kc945], kb123, [([(2, (-1)), (1, 1)], 0), ([(45, (-1)), (1, 1)], 0), ([(45, 1), (2, (-1))], 0)], [kR 0, kR 3, kI 43, kI 44, kI 50, kI 51, kIc 14], 25), ([], 10))
def xq_581_34 : xCu := (29, [0, 1, 2, 3, 4, 5, 6], ([kc880, kc185, kc909, kc946], kb124, [([(2, (-1)), (1, 1)], 0), ([(45, (-1)), (1, 1)], 0), ([(45, 1), (2, (-1))], 0)], [kR 0, kR 3, kI 43, kI 44, kI 50, kI 51, kIc 13], 25), ([], 11))
def xq_581_35 : xCu := (29, [0, 1, 2, 3, 4, 5, 6], ([kc880, kc185, kc909, kc947], kb125, [([(2, (-1)), (1, 1)], 0), ([(45, (-1)), (1, 1)], 0), ([(45, 1), (2, (-1))], 0)], [kR 0, kR 3, kI 43, kI 44, kI 50, kI 51, kIc 12], 25), ([], 12))
def xq_581_36 : xCu := (29, [0, 1, 2, 3, 4, 5, 6], ([kc880, kc185, kc909, kc948], kb126, [([(2, (-1)), (1, 1)], 0), ([(45, (-1)), (1, 1)], 0), ([(45, 1), (2, (-1))], 0)], [kR 0, kR 3, kI 43, kI 44, kI 50, kI 51, kIc 11], 25), ([], 13))
def xq_581_37 : xCu := (29, [0, 1, 2, 3, 4, 5, 6], ([kc880, kc185, kc909, kc949], kb127, [([(2, (-1)), (1, 1)], 0), ([(45, (-1)), (1, 1)], 0), ([(45, 1), (2, (-1))], 0)], [kR 0, kR 3, kI 43, kI 44, kI 50, kI 51, kIc 10], 25), ([], 14))
def xq_581_38 : xCu := (29, [0, 1, 2, 3, 4, 5, 6], ([kc880, kc185, kc909, kc950], kb128, [([(2, (-1)), (1, 1)], 0), ([(45, (-1)), (1, 1)], 0), ([(45, 1), (2, (-1))], 0)], [kR 0, kR 3, kI 43, kI 44, kI 50, kI 51, kIc 9], 25), ([], 15))
def xq_581_39 : xCu := (29, [0, 1, 2, 3, 4, 5, 6], ([kc880, kc185, kc909, kc951], kb129, [([(2, (-1)), (1, 1)], 0), ([(45, (-1)), (1, 1)], 0), ([(45, 1), (2, (-1))], 0)], [kR 0, kR 3, kI 43, kI 44, kI 50, kI 51, kIc 8], 25), ([], 16))
def xq_581_40 : xCu := (29, [0, 1, 2, 3, 4, 5, 6], ([kc880, kc185, kc909, kc952], kb130, [([(2, (-1)), (1, 1)], 0), ([(45, (-1)), (1, 1)], 0), ([(45, 1), (2, (-1))], 0)], [kR 0, kR 3, kI 43, kI 44, kI 50, kI 51, kIc 7], 25), ([], 17))
def xq_581_41 : xCu := (29, [0, 1, 2, 3, 4, 5, 6], ([kc880, kc185, kc909, kc953], kb131, [([(2, (-1)), (1, 1)], 0), ([(45, (-1)), (1, 1)], 0), ([(45, 1), (2, (-1))], 0)], [kR 0, kR 3, kI 43, kI 44, kI 50, kI 51, kIc 6], 25), ([], 18))
def xq_581_42 : xCu := (29, [0, 1, 2, 3, 4, 5, 6], ([kc880, kc185, kc909, kc954], kb132, [([(2, (-1)), (1, 1)], 0), ([(45, (-1)), (1, 1)], 0), ([(45, 1), (2, (-1))], 0)], [kR 0, kR 3, kI 43, kI 44, kI 50, kI 51, kIc 5], 25), ([], 19))
def xq_581_43 : xCu := (29, [0, 1, 2, 3, 4, 5, 6], ([kc880, kc185, kc909, kc955], kb133, [([(2, (-1)), (1, 1)], 0), ([(45, (-1)), (1, 1)], 0), ([(45, 1), (2, (-1))], 0)], [kR 0, kR 3, kI 43, kI 44, kI 50, kI 51, kIc 4], 25), ([], 20))
def xq_581_44 : xCu := (29, [0, 1, 2, 3, 4, 5, 6], ([kc880, kc185, kc909, kc956], kb134, [([(2, (-1)), (1, 1)], 0), ([(45, (-1)), (1, 1)], 0), ([(45, 1), (2, (-1))], 0)], [kR 0, kR 3, kI 43, kI 44, kI 50, kI 51, kIc 3], 25), ([], 21))
def xq_581_45 : xCu := (29, [0, 1, 2, 3, 4, 5, 6], ([kc880, kc185, kc909, kc957], kb135, [([(2, (-1)), (1, 1)], 0), ([(45, (-1)), (1, 1)], 0), ([(45, 1), (2, (-1))], 0)], [kR 0, kR 3, kI 43, kI 44, kI 50, kI 51, kIc 2], 25), ([], 22))
def xq_581_46 : xCu := (29, [0, 1, 2, 3, 4, 5, 6], ([kc880, kc185, kc909, kc958], kb136, [([(2, (-1)), (1, 1)], 0), ([(45, (-1)), (1, 1)], 0), ([(45, 1), (2, (-1))], 0)], [kR 0, kR 3, kI 43, kI 44, kI 50, kI 51, kIc 1], 25), ([], 23))
def xq_581_47 : xCu := (29, [0, 1, 2, 3, 4, 5, 6], ([kc880, kc185, kc909, kc910], kb137, [([(2, (-1)), (1, 1)], 0), ([(45, (-1)), (1, 1)], 0), ([(45, 1), (2, (-1))], 0)], [kR 0, kR 3, kI 43, kI 44, kIc 0, kI 50, kIc 0], 25), ([], 24))
def xq_581_48 : xCu := (29, [0, 1, 2, 3, 4, 5, 6], ([kc877, kc185, kc909, kc910], kb86, [([(2, (-1)), (1, 1)], 0), ([(45, (-1)), (1, 1)], 0), ([(45, 1), (2, (-1))], 0)], [kR 0, kR 3, kI 43, kI 44, kIc 23, kIc 23, kIc 23], 25), ([], 1))
def xq_581_49 : xCu := (29, [0, 1, 2, 3, 4, 5, 6], ([kc877, kc185, kc909, kc910], kb86, [([(2, (-1)), (1, 1)], 0), ([(45, (-1)), (1, 1)], 0), ([(45, 1), (2, (-1))], 0)], [kR 0, kR 3, kI 43, kI 44, kIc 22, kIc 22, kIc 22], 25), ([], 2))
def xq_581_50 : xCu := (29, [0, 1, 2, 3, 4, 5, 6], ([kc877, kc185, kc909, kc910], kb86, [([(2, (-1)), (1, 1)], 0), ([(45, (-1)), (1, 1)], 0), ([(45, 1), (2, (-1))], 0)], [kR 0, kR 3, kI 43, kI 44, kIc 21, kIc 21, kIc 21], 25), ([], 3))
def xq_581_51 : xCu := (29, [0, 1, 2, 3, 4, 5, 6], ([kc877, kc185, kc909, kc910], kb86, [([(2, (-1)), (1, 1)], 0), ([(45, (-1)), (1, 1)], 0), ([(45, 1), (2, (-1))], 0)], [kR 0, kR 3, kI 43, kI 44, kIc 20, kIc 20, kIc 20], 25), ([], 4))
def xq_581_52 : xCu := (29, [0, 1, 2, 3, 4, 5, 6], ([kc877, kc185, kc909, kc910], kb86, [([(2, (-1)), (1, 1)], 0), ([(45, (-1)), (1, 1)], 0), ([(45, 1), (2, (-1))], 0)], [kR 0, kR 3, kI 43, kI 44, kIc 19, kIc 19, kIc 19], 25), ([], 5))
def xq_581_53 : xCu := (29, [0, 1, 2, 3, 4, 5, 6], ([kc877, kc185, kc909, kc910], kb86, [([(2, (-1)), (1, 1)], 0), ([(45, (-1)), (1, 1)], 0), ([(45, 1), (2, (-1))], 0)], [kR 0, kR 3, kI 43, kI 44, kIc 18, kIc 18, kIc 18], 25), ([], 6))
def xq_581_54 : xCu := (29, [0, 1, 2, 3, 4, 5, 6], ([kc877, kc185, kc909, kc910], kb86, [([(2, (-1)), (1, 1)], 0), ([(45, (-1)), (1, 1)], 0), ([(45, 1), (2, (-1))], 0)], [kR 0, kR 3, kI 43, kI 44, kIc 17, kIc 17, kIc 17], 25), ([], 7))
def xq_581_55 : xCu := (29, [0, 1, 2, 3, 4, 5, 6], ([kc877, kc185, kc909, kc910], kb86, [([(2, (-1)), (1, 1)], 0), ([(45, (-1)), (1, 1)], 0), ([(45, 1), (2, (-1))], 0)], [kR 0, kR 3, kI 43, kI 44, kIc 16, kIc 16, kIc 16], 25), ([], 8))
def xq_581_56 : xCu := (29, [0, 1, 2, 3, 4, 5, 6], ([kc877, kc185, kc909, kc910], kb86, [([(2, (-1)), (1, 1)], 0), ([(45, (-1)), (1, 1)], 0), ([(45, 1), (2, (-1))], 0)], [kR 0, kR 3, kI 43, kI 44, kIc 15, kIc 15, kIc 15], 25), ([], 9))
def xq_581_57 : xCu := (29, [0, 1, 2, 3, 4, 5, 6], ([kc877, kc185, kc909, kc910], kb86, [([(2, (-1)), (1, 1)], 0), ([(45, (-1)), (1, 1)], 0), ([(45, 1), (2, (-1))], 0)], [kR 0, kR 3, kI 43, kI 44, kIc 14, kIc 14, kIc 14], 25), ([], 10))
def xq_581_58 : xCu := (29, [0, 1, 2, 3, 4, 5, 6], ([kc877, kc185, kc909, kc910], kb86, [([(2, (-1)), (1, 1)], 0), ([(45, (-1)), (1, 1)], 0), ([(45, 1), (2, (-1))], 0)], [kR 0, kR 3, kI 43, kI 44, kIc 13, kIc 13, kIc 13], 25), ([], 11))
def xq_581_59 : xCu := (29, [0, 1, 2, 3, 4, 5, 6], ([kc877, kc185, kc909, kc910], kb86, [([(2, (-1)), (1, 1)], 0), ([(45, (-1)), (1, 1)], 0), ([(45, 1), (2, (-1))], 0)], [kR 0, kR 3, kI 43, kI 44, kIc 12, kIc 12, kIc 12], 25), ([], 12))
def xq_581_60 : xCu := (29, [0, 1, 2, 3, 4, 5, 6], ([kc877, kc185, kc909, kc910], kb86, [([(2, (-1)), (1, 1)], 0), ([(45, (-1)), (1, 1)], 0), ([(45, 1), (2, (-1))], 0)], [kR 0, kR 3, kI 43, kI 44, kIc 11, kIc 11, kIc 11], 25), ([], 13))
def xq_581_61 : xCu := (29, [0, 1, 2, 3, 4, 5, 6], ([kc877, kc185, kc909, kc910], kb86, [([(2, (-1)), (1, 1)], 0), ([(45, (-1)), (1, 1)], 0), ([(45, 1), (2, (-1))], 0)], [kR 0, kR 3, kI 43, kI 44, kIc 10, kIc 10, kIc 10], 25), ([], 14))
def xq_581_62 : xCu := (29, [0, 1, 2, 3, 4, 5, 6], ([kc877, kc185, kc909, kc910], kb86, [([(2, (-1)), (1, 1)], 0), ([(45, (-1)), (1, 1)], 0), ([(45, 1), (2, (-1))], 0)], [kR 0, kR 3, kI 43, kI 44, kIc 9, kIc 9, kIc 9], 25), ([], 15))
def xq_581_63 : xCu := (29, [0, 1, 2, 3, 4, 5, 6], ([kc877, kc185, kc909, kc910], kb86, [([(2, (-1)), (1, 1)], 0), ([(45, (-1)), (1, 1)], 0), ([(45, 1), (2, (-1))], 0)], [kR 0, kR 3, kI 43, kI 44, kIc 8, kIc 8, kIc 8], 25), ([], 16))
def xq_581_64 : xCu := (29, [0, 1, 2, 3, 4, 5, 6], ([kc877, kc185, kc909, kc910], kb86, [([(2, (-1)), (1, 1)], 0), ([(45, (-1)), (1, 1)], 0), ([(45, 1), (2, (-1))], 0)], [kR 0, kR 3, kI 43, kI 44, kIc 7, kIc 7, kIc 7], 25), ([], 17))
def xq_581_65 : xCu := (29, [0, 1, 2, 3, 4, 5, 6], ([kc877, kc185, kc909, kc910], kb86, [([(2, (-1)), (1, 1)], 0), ([(45, (-1)), (1, 1)], 0), ([(45, 1), (2, (-1))], 0)], [kR 0, kR 3, kI 43, kI 44, kIc 6, kIc 6, kIc 6], 25), ([], 18))
def xq_581_66 : xCu := (29, [0, 1, 2, 3, 4, 5, 6], ([kc877, kc185, kc909, kc910], kb86, [([(2, (-1)), (1, 1)], 0), ([(45, (-1)), (1, 1)], 0), ([(45, 1), (2, (-1))], 0)], [kR 0, kR 3, kI 43, kI 44, kIc 5, kIc 5, kIc 5], 25), ([], 19))
def xq_581_67 : xCu := (29, [0, 1, 2, 3, 4, 5, 6], ([kc877, kc185, kc909, kc910], kb86, [([(2, (-1)), (1, 1)], 0), ([(45, (-1)), (1, 1)], 0), ([(45, 1), (2, (-1))], 0)], [kR 0, kR 3, kI 43, kI 44, kIc 4, kIc 4, kIc 4], 25), ([], 20))
def xq_581_68 : xCu := (29, [0, 1, 2, 3, 4, 5, 6], ([kc877, kc185, kc909, kc910], kb86, [([(2, (-1)), (1, 1)], 0), ([(45, (-1)), (1, 1)], 0), ([(45, 1), (2, (-1))], 0)], [kR 0, kR 3, kI 43, kI 44, kIc 3, kIc 3, kIc 3], 25), ([], 21))
def xq_581_69 : xCu := (29, [0, 1, 2, 3, 4, 5, 6], ([kc877, kc185, kc909, kc910], kb86, [([(2, (-1)), (1, 1)], 0), ([(45, (-1)), (1, 1)], 0), ([(45, 1), (2, (-1))], 0)], [kR 0, kR 3, kI 43, kI 44, kIc 2, kIc 2, kIc 2], 25), ([], 22))
def xq_581_70 : xCu := (29, [0, 1, 2, 3, 4, 5, 6], ([kc877, kc185, kc909, kc910], kb86, [([(2, (-1)), (1, 1)], 0), ([(45, (-1)), (1, 1)], 0), ([(45, 1), (2, (-1))], 0)], [kR 0, kR 3, kI 43, kI 44, kIc 1, kIc 1, kIc 1], 25), ([], 23))
def xq_581_71 : xCu := (29, [0, 1, 2, 3, 4, 5, 6], ([kc877, kc185, kc909, kc910], kb86, [([(2, (-1)), (1, 1)], 0), ([(45, (-1)), (1, 1)], 0), ([(45, 1), (2, (-1))], 0)], [kR 0, kR 3, kI 43, kI 44, kIc 0, kIc 0, kIc 0], 25), ([], 24))
def xq_581_72 : xCu := (29, [0, 1, 2, 3, 4, 5, 6], ([kc882, kc185, kc909, kc959], kb113, [([(2, (-1)), (1, 1)], 0), ([(45, (-1)), (1, 1)], 0), ([(45, 1), (2, (-1))], (-1))], [kR 0, kR 3, kI 43, kI 44, kI 48, kIc 23, kIc 24], 25), ([], 0))
def xq_581_73 : xCu := (29, [0, 1, 2, 3, 4, 5, 6], ([kc880, kc185, kc909, kc959], kb137, [([(2, (-1)), (1, 1)], 0), ([(45, (-1)), (1, 1)], 0), ([(45, 1), (2, (-1))], 0)], [kR 0, kR 3, kI 43, kI 44, kI 50, kIc 23, kIc 24], 25), ([], 0))
def xc_581 : xCt := (([kc883, kc185, kc909, kc910], kb89, [([(2, (-1)), (1, 1)], 0)], [kR 0, kR 3, kI 43, kI 44], 25), [xe_581_0, xe_581_1, xe_581_2], 5)
def xu_581 : List xCu := [xq_581_0,
  xq_581_1,
  xq_581_2,
  xq_581_3,
  xq_581_4,
  xq_581_5,
  xq_581_6,
  xq_581_7,
  xq_581_8,
  xq_581_9,
  xq_581_10,
  xq_581_11,
  xq_581_12,
  xq_581_13,
  xq_581_14,
  xq_581_15,
  xq_581_16,
  xq_581_17,
  xq_581_18,
  xq_581_19,
  xq_581_20,
  xq_581_21,
  xq_581_22,
  xq_581_23,
  xq_581_24,
  xq_581_25,
  xq_581_26,
  xq_581_27,
  xq_581_28,
  xq_581_29,
  xq_581_30,
  xq_581_31,
  xq_581_32,
  xq_581_33,
  xq_581_34,
  xq_581_35,
  xq_581_36,
  xq_581_37,
  xq_581_38,
  xq_581_39,
  xq_581_40,
  xq_581_41,
  xq_581_42,
  xq_581_43,
  xq_581_44,
  xq_581_45,
  xq_581_46,
  xq_581_47,
  xq_581_48,
  xq_581_49,
  xq_581_50,
  xq_581_51,
  xq_581_52,
  xq_581_53,
  xq_581_54,
  xq_581_55,
  xq_581_56,
  xq_581_57,
  xq_581_58,
  xq_581_59,
  xq_581_60,
  xq_581_61,
  xq_581_62,
  xq_581_63,
  xq_581_64,
  xq_581_65,
  xq_581_66,
  xq_581_67,
  xq_581_68,
  xq_581_69,
  xq_581_70,
  xq_581_71,
  xq_581_72,
  xq_581_73]
def xT_581 : List (Nat × xCt) := [(201, xc_574)]
theorem xn_581 : Nat.ble (xsum xc_581.1.2.2.2.1) xm_X10_spanLine.nl = true := by decide +kernel
theorem xv_581_0 : xStP xT_581 xHt 100000 209 xm_X10_spanLine xc_581 xu_581 [] 0 18 = true := by decide +kernel
theorem xv_581_18 : xStP xT_581 xHt 100000 209 xm_X10_spanLine xc_581 xu_581 [] 18 18 = true := by decide +kernel
theorem xv_581_36 : xStP xT_581 xHt 100000 209 xm_X10_spanLine xc_581 xu_581 [] 36 18 = true := by decide +kernel
theorem xv_581_54 : xStP xT_581 xHt 100000 209 xm_X10_spanLine xc_581 xu_581 [] 54 18 = true := by decide +kernel
theorem xv_581_72 : xStP xT_581 xHt 100000 209 xm_X10_spanLine xc_581 xu_581 [] 72 18 = true := by decide +kernel
theorem xv_581_90 : xStP xT_581 xHt 100000 209 xm_X10_spanLine xc_581 xu_581 [] 90 18 = true := by decide +kernel
theorem xv_581_108 : xStP xT_581 xHt 100000 209 xm_X10_spanLine xc_581 xu_581 [] 108 18 = true := by decide +kernel
theorem xv_581_126 : xStP xT_581 xHt 100000 209 xm_X10_spanLine xc_581 xu_581 [] 126 18 = true := by decide +kernel
theorem xv_581_144 : xStP xT_581 xHt 100000 209 xm_X10_spanLine xc_581 xu_581 [] 144 18 = true := by decide +kernel
theorem xz_581 : xStL xT_581 xHt 100000 209 xm_X10_spanLine xc_581 xu_581 162 = true := by decide +kernel
theorem xw_581_0 : ((xu_581.drop 0).take 1).all (xVerCs xT_581 xHt 100000 209 xm_X10_spanLine xc_581 xu_581 [2] [72]) = true := by decide +kernel
theorem xw_581_1 : ((xu_581.drop 1).take 1).all (xVerCs xT_581 xHt 100000 209 xm_X10_spanLine xc_581 xu_581 [2] [0]) = true := by decide +kernel
theorem xw_581_2 : ((xu_581.drop 2).take 1).all (xVerCs xT_581 xHt 100000 209 xm_X10_spanLine xc_581 xu_581 [2] [1]) = true := by decide +kernel
theorem xw_581_3 : ((xu_581.drop 3).take 1).all (xVerCs xT_581 xHt 100000 209 xm_X10_spanLine xc_581 xu_581 [2] [2]) = true := by decide +kernel
theorem xw_581_4 : ((xu_581.drop 4).take 1).all (xVerCs xT_581 xHt 100000 209 xm_X10_spanLine xc_581 xu_581 [2] [3]) = true := by decide +kernel
theorem xw_581_5 : ((xu_581.drop 5).take 1).all (xVerCs xT_581 xHt 100000 209 xm_X10_spanLine xc_581 xu_581 [2] [4]) = true := by decide +kernel
theorem xw_581_6 : ((xu_581.drop 6).take 1).all (xVerCs xT_581 xHt 100000 209 xm_X10_spanLine xc_581 xu_581 [2] [5]) = true := by decide +kernel
theorem xw_581_7 : ((xu_581.drop 7).take 1).all (xVerCs xT_581 xHt 100000 209 xm_X10_spanLine xc_581 xu_581 [2] [6]) = true := by decide +kernel
theorem xw_581_8 : ((xu_581.drop 8).take 1).all (xVerCs xT_581 xHt 100000 209 xm_X10_spanLine xc_581 xu_581 [2] [7]) = true := by decide +kernel
theorem xw_581_9 : ((xu_581.drop 9).take 1).all (xVerCs xT_581 xHt 100000 209 xm_X10_spanLine xc_581 xu_581 [2] [8]) = true := by decide +kernel
theorem xw_581_10 : ((xu_581.drop 10).take 1).all (xVerCs xT_581 xHt 100000 209 xm_X10_spanLine xc_581 xu_581 [2] [9]) = true := by decide +kernel
theorem xw_581_11 : ((xu_581.drop 11).take 1).all (xVerCs xT_581 xHt 100000 209 xm_X10_spanLine xc_581 xu_581 [2] [10]) = true := by decide +kernel
theorem xw_581_12 : ((xu_581.drop 12).take 1).all (xVerCs xT_581 xHt 100000 209 xm_X10_spanLine xc_581 xu_581 [2] [11]) = true := by decide +kernel
theorem xw_581_13 : ((xu_581.drop 13).take 1).all (xVerCs xT_581 xHt 100000 209 xm_X10_spanLine xc_581 xu_581 [2] [12]) = true := by decide +kernel
theorem xw_581_14 : ((xu_581.drop 14).take 1).all (xVerCs xT_581 xHt 100000 209 xm_X10_spanLine xc_581 xu_581 [2] [13]) = true := by decide +kernel
theorem xw_581_15 : ((xu_581.drop 15).take 1).all (xVerCs xT_581 xHt 100000 209 xm_X10_spanLine xc_581 xu_581 [2] [14]) = true := by decide +kernel
theorem xw_581_16 : ((xu_581.drop 16).take 1).all (xVerCs xT_581 xHt 100000 209 xm_X10_spanLine xc_581 xu_581 [2] [15]) = true := by decide +kernel
theorem xw_581_17 : ((xu_581.drop 17).take 1).all (xVerCs xT_581 xHt 100000 209 xm_X10_spanLine xc_581 xu_581 [2] [16]) = true := by decide +kernel
theorem xw_581_18 : ((xu_581.drop 18).take 1).all (xVerCs xT_581 xHt 100000 209 xm_X10_spanLine xc_581 xu_581 [2] [17]) = true := by decide +kernel
theorem xw_581_19 : ((xu_581.drop 19).take 1).all (xVerCs xT_581 xHt 100000 209 xm_X10_spanLine xc_581 xu_581 [2] [18]) = true := by decide +kernel
theorem xw_581_20 : ((xu_581.drop 20).take 1).all (xVerCs xT_581 xHt 100000 209 xm_X10_spanLine xc_581 xu_581 [2] [19]) = true := by decide +kernel
theorem xw_581_21 : ((xu_581.drop 21).take 1).all (xVerCs xT_581 xHt 100000 209 xm_X10_spanLine xc_581 xu_581 [2] [20]) = true := by decide +kernel
theorem xw_581_22 : ((xu_581.drop 22).take 1).all (xVerCs xT_581 xHt 100000 209 xm_X10_spanLine xc_581 xu_581 [2] [21]) = true := by decide +kernel
theorem xw_581_23 : ((xu_581.drop 23).take 1).all (xVerCs xT_581 xHt 100000 209 xm_X10_spanLine xc_581 xu_581 [] [22]) = true := by decide +kernel
theorem xw_581_24 : ((xu_581.drop 24).take 1).all (xVerCs xT_581 xHt 100000 209 xm_X10_spanLine xc_581 xu_581 [1] [73]) = true := by decide +kernel
theorem xw_581_25 : ((xu_581.drop 25).take 1).all (xVerCs xT_581 xHt 100000 209 xm_X10_spanLine xc_581 xu_581 [1] [24]) = true := by decide +kernel
theorem xw_581_26 : ((xu_581.drop 26).take 1).all (xVerCs xT_581 xHt 100000 209 xm_X10_spanLine xc_581 xu_581 [1] [25]) = true := by decide +kernel
theorem xw_581_27 : ((xu_581.drop 27).take 1).all (xVerCs xT_581 xHt 100000 209 xm_X10_spanLine xc_581 xu_581 [1] [26]) = true := by decide +kernel
theorem xw_581_28 : ((xu_581.drop 28).take 1).all (xVerCs xT_581 xHt 100000 209 xm_X10_spanLine xc_581 xu_581 [1] [27]) = true := by decide +kernel
theorem xw_581_29 : ((xu_581.drop 29).take 1).all (xVerCs xT_581 xHt 100000 209 xm_X10_spanLine xc_581 xu_581 [1] [28]) = true := by decide +kernel
theorem xw_581_30 : ((xu_581.drop 30).take 1).all (xVerCs xT_581 xHt 100000 209 xm_X10_spanLine xc_581 xu_581 [1] [29]) = true := by decide +kernel
theorem xw_581_31 : ((xu_581.drop 31).take 1).all (xVerCs xT_581 xHt 100000 209 xm_X10_spanLine xc_581 xu_581 [1] [30]) = true := by decide +kernel
theorem xw_581_32 : ((xu_581.drop 32).take 1).all (xVerCs xT_581 xHt 100000 209 xm_X10_spanLine xc_581 xu_581 [1] [31]) = true := by decide +kernel
theorem xw_581_33 : ((xu_581.drop 33).take 1).all (xVerCs xT_581 xHt 100000 209 xm_X10_spanLine xc_581 xu_581 [1] [32]) = true := by decide +kernel
theorem xw_581_34 : ((xu_581.drop 34).take 1).all (xVerCs xT_581 xHt 100000 209 xm_X10_spanLine xc_581 xu_581 [1] [33]) = true := by decide +kernel
theorem xw_581_35 : ((xu_581.drop 35).take 1).all (xVerCs xT_581 xHt 100000 209 xm_X10_spanLine xc_581 xu_581 [1] [34]) = true := by decide +kernel
theorem xw_581_36 : ((xu_581.drop 36).take 1).all (xVerCs xT_581 xHt 100000 209 xm_X10_spanLine xc_581 xu_581 [1] [35]) = true := by decide +kernel
theorem xw_581_37 : ((xu_581.drop 37).take 1).all (xVerCs xT_581 xHt 100000 209 xm_X10_spanLine xc_581 xu_581 [1] [36]) = true := by decide +kernel
theorem xw_581_38 : ((xu_581.drop 38).take 1).all (xVerCs xT_581 xHt 100000 209 xm_X10_spanLine xc_581 xu_581 [1] [37]) = true := by decide +kernel
theorem xw_581_39 : ((xu_581.drop 39).take 1).all (xVerCs xT_581 xHt 100000 209 xm_X10_spanLine xc_581 xu_581 [1] [38]) = true := by decide +kernel
theorem xw_581_40 : ((xu_581.drop 40).take 1).all (xVerCs xT_581 xHt 100000 209 xm_X10_spanLine xc_581 xu_581 [1] [39]) = true := by decide +kernel
theorem xw_581_41 : ((xu_581.drop 41).take 1).all (xVerCs xT_581 xHt 100000 209 xm_X10_spanLine xc_581 xu_581 [1] [40]) = true := by decide +kernel
theorem xw_581_42 : ((xu_581.drop 42).take 1).all (xVerCs xT_581 xHt 100000 209 xm_X10_spanLine xc_581 xu_581 [1] [41]) = true := by decide +kernel
theorem xw_581_43 : ((xu_581.drop 43).take 1).all (xVerCs xT_581 xHt 100000 209 xm_X10_spanLine xc_581 xu_581 [1] [42]) = true := by decide +kernel
theorem xw_581_44 : ((xu_581.drop 44).take 1).all (xVerCs xT_581 xHt 100000 209 xm_X10_spanLine xc_581 xu_581 [1] [43]) = true := by decide +kernel
theorem xw_581_45 : ((xu_581.drop 45).take 1).all (xVerCs xT_581 xHt 100000 209 xm_X10_spanLine xc_581 xu_581 [1] [44]) = true := by decide +kernel
theorem xw_581_46 : ((xu_581.drop 46).take 1).all (xVerCs xT_581 xHt 100000 209 xm_X10_spanLine xc_581 xu_581 [1] [45]) = true := by decide +kernel
theorem xw_581_47 : ((xu_581.drop 47).take 1).all (xVerCs xT_581 xHt 100000 209 xm_X10_spanLine xc_581 xu_581 [] [46]) = true := by decide +kernel
theorem xw_581_48 : ((xu_581.drop 48).take 1).all (xVerCs xT_581 xHt 100000 209 xm_X10_spanLine xc_581 xu_581 [0] []) = true := by decide +kernel
theorem xw_581_49 : ((xu_581.drop 49).take 1).all (xVerCs xT_581 xHt 100000 209 xm_X10_spanLine xc_581 xu_581 [0] []) = true := by decide +kernel
theorem xw_581_50 : ((xu_581.drop 50).take 1).all (xVerCs xT_581 xHt 100000 209 xm_X10_spanLine xc_581 xu_581 [0] []) = true := by decide +kernel
theorem xw_581_51 : ((xu_581.drop 51).take 1).all (xVerCs xT_581 xHt 100000 209 xm_X10_spanLine xc_581 xu_581 [0] []) = true := by decide +kernel
theorem xw_581_52 : ((xu_581.drop 52).take 1).all (xVerCs xT_581 xHt 100000 209 xm_X10_spanLine xc_581 xu_581 [0] []) = true := by decide +kernel
theorem xw_581_53 : ((xu_581.drop 53).take 1).all (xVerCs xT_581 xHt 100000 209 xm_X10_spanLine xc_581 xu_581 [0] []) = true := by decide +kernel
theorem xw_581_54 : ((xu_581.drop 54).take 1).all (xVerCs xT_581 xHt 100000 209 xm_X10_spanLine xc_581 xu_581 [0] []) = true := by decide +kernel
theorem xw_581_55 : ((xu_581.drop 55).take 1).all (xVerCs xT_581 xHt 100000 209 xm_X10_spanLine xc_581 xu_581 [0] []) = true := by decide +kernel
theorem xw_581_56 : ((xu_581.drop 56).take 1).all (xVerCs xT_581 xHt 100000 209 xm_X10_spanLine xc_581 xu_581 [0] []) = true := by decide +kernel
theorem xw_581_57 : ((xu_581.drop 57).take 1).all (xVerCs xT_581 xHt 100000 209 xm_X10_spanLine xc_581 xu_581 [0] []) = true := by decide +kernel
theorem xw_581_58 : ((xu_581.drop 58).take 1).all (xVerCs xT_581 xHt 100000 209 xm_X10_spanLine xc_581 xu_581 [0] []) = true := by decide +kernel
theorem xw_581_59 : ((xu_581.drop 59).take 1).all (xVerCs xT_581 xHt 100000 209 xm_X10_spanLine xc_581 xu_581 [0] []) = true := by decide +kernel
theorem xw_581_60 : ((xu_581.drop 60).take 1).all (xVerCs xT_581 xHt 100000 209 xm_X10_spanLine xc_581 xu_581 [0] []) = true := by decide +kernel
theorem xw_581_61 : ((xu_581.drop 61).take 1).all (xVerCs xT_581 xHt 100000 209 xm_X10_spanLine xc_581 xu_581 [0] []) = true := by decide +kernel
theorem xw_581_62 : ((xu_581.drop 62).take 1).all (xVerCs xT_581 xHt 100000 209 xm_X10_spanLine xc_581 xu_581 [0] []) = true := by decide +kernel
theorem xw_581_63 : ((xu_581.drop 63).take 1).all (xVerCs xT_581 xHt 100000 209 xm_X10_spanLine xc_581 xu_581 [0] []) = true := by decide +kernel
theorem xw_581_64 : ((xu_581.drop 64).take 1).all (xVerCs xT_581 xHt 100000 209 xm_X10_spanLine xc_581 xu_581 [0] []) = true := by decide +kernel
theorem xw_581_65 : ((xu_581.drop 65).take 1).all (xVerCs xT_581 xHt 100000 209 xm_X10_spanLine xc_581 xu_581 [0] []) = true := by decide +kernel
theorem xw_581_66 : ((xu_581.drop 66).take 1).all (xVerCs xT_581 xHt 100000 209 xm_X10_spanLine xc_581 xu_581 [0] []) = true := by decide +kernel
theorem xw_581_67 : ((xu_581.drop 67).take 1).all (xVerCs xT_581 xHt 100000 209 xm_X10_spanLine xc_581 xu_581 [0] []) = true := by decide +kernel
theorem xw_581_68 : ((xu_581.drop 68).take 1).all (xVerCs xT_581 xHt 100000 209 xm_X10_spanLine xc_581 xu_581 [0] []) = true := by decide +kernel
theorem xw_581_69 : ((xu_581.drop 69).take 1).all (xVerCs xT_581 xHt 100000 209 xm_X10_spanLine xc_581 xu_581 [0] []) = true := by decide +kernel
theorem xw_581_70 : ((xu_581.drop 70).take 1).all (xVerCs xT_581 xHt 100000 209 xm_X10_spanLine xc_581 xu_581 [0] []) = true := by decide +kernel
theorem xw_581_71 : ((xu_581.drop 71).take 1).all (xVerCs xT_581 xHt 100000 209 xm_X10_spanLine xc_581 xu_581 [0] []) = true := by decide +kernel
theorem xw_581_72 : ((xu_581.drop 72).take 1).all (xVerCs xT_581 xHt 100000 209 xm_X10_spanLine xc_581 xu_581 [2] []) = true := by decide +kernel
theorem xw_581_73 : ((xu_581.drop 73).take 1).all (xVerCs xT_581 xHt 100000 209 xm_X10_spanLine xc_581 xu_581 [1] []) = true := by decide +kernel
theorem xok_581 (l : Launch) : xCk l 209 xc_581 := ⟨xm_X10_spanLine, rfl, xVer_ok xk_all (xHt_ok l) (T := xT_581) (xTc (xok_574 l) (xTn l)) rfl (f := 100000) (cuts := xu_581) (xStE (es := []) xn_581 (xStS xv_581_0 (xStS xv_581_18 (xStS xv_581_36 (xStS xv_581_54 (xStS xv_581_72 (xStS xv_581_90 (xStS xv_581_108 (xStS xv_581_126 (xStS xv_581_144 (xStZ xz_581))))))))))) (xAll0 (xAllS 0 1 (xAllCs xw_581_0) (xAllS 1 1 (xAllCs xw_581_1) (xAllS 2 1 (xAllCs xw_581_2) (xAllS 3 1 (xAllCs xw_581_3) (xAllS 4 1 (xAllCs xw_581_4) (xAllS 5 1 (xAllCs xw_581_5) (xAllS 6 1 (xAllCs xw_581_6) (xAllS 7 1 (xAllCs xw_581_7) (xAllS 8 1 (xAllCs xw_581_8) (xAllS 9 1 (xAllCs xw_581_9) (xAllS 10 1 (xAllCs xw_581_10) (xAllS 11 1 (xAllCs xw_581_11) (xAllS 12 1 (xAllCs xw_581_12) (xAllS 13 1 (xAllCs xw_581_13) (xAllS 14 1 (xAllCs xw_581_14) (xAllS 15 1 (xAllCs xw_581_15) (xAllS 16 1 (xAllCs xw_581_16) (xAllS 17 1 (xAllCs xw_581_17) (xAllS 18 1 (xAllCs xw_581_18) (xAllS 19 1 (xAllCs xw_581_19) (xAllS 20 1 (xAllCs xw_581_20) (xAllS 21 1 (xAllCs xw_581_21) (xAllS 22 1 (xAllCs xw_581_22) (xAllS 23 1 (xAllCs xw_581_23) (xAllS 24 1 (xAllCs xw_581_24) (xAllS 25 1 (xAllCs xw_581_25) (xAllS 26 1 (xAllCs xw_581_26) (xAllS 27 1 (xAllCs xw_581_27) (xAllS 28 1 (xAllCs xw_581_28) (xAllS 29 1 (xAllCs xw_581_29) (xAllS 30 1 (xAllCs xw_581_30) (xAllS 31 1 (xAllCs xw_581_31) (xAllS 32 1 (xAllCs xw_581_32) (xAllS 33 1 (xAllCs xw_581_33) (xAllS 34 1 (xAllCs xw_581_34) (xAllS 35 1 (xAllCs xw_581_35) (xAllS 36 1 (xAllCs xw_581_36) (xAllS 37 1 (xAllCs xw_581_37) (xAllS 38 1 (xAllCs xw_581_38) (xAllS 39 1 (xAllCs xw_581_39) (xAllS 40 1 (xAllCs xw_581_40) (xAllS 41 1 (xAllCs xw_581_41) (xAllS 42 1 (xAllCs xw_581_42) (xAllS 43 1 (xAllCs xw_581_43) (xAllS 44 1 (xAllCs xw_581_44) (xAllS 45 1 (xAllCs xw_581_45) (xAllS 46 1 (xAllCs xw_581_46) (xAllS 47 1 (xAllCs xw_581_47) (xAllS 48 1 (xAllCs xw_581_48) (xAllS 49 1 (xAllCs xw_581_49) (xAllS 50 1 (xAllCs xw_581_50) (xAllS 51 1 (xAllCs xw_581_51) (xAllS 52 1 (xAllCs xw_581_52) (xAllS 53 1 (xAllCs xw_581_53) (xAllS 54 1 (xAllCs xw_581_54) (xAllS 55 1 (xAllCs xw_581_55) (xAllS 56 1 (xAllCs xw_581_56) (xAllS 57 1 (xAllCs xw_581_57) (xAllS 58 1 (xAllCs xw_581_58) (xAllS 59 1 (xAllCs xw_581_59) (xAllS 60 1 (xAllCs xw_581_60) (xAllS 61 1 (xAllCs xw_581_61) (xAllS 62 1 (xAllCs xw_581_62) (xAllS 63 1 (xAllCs xw_581_63) (xAllS 64 1 (xAllCs xw_581_64) (xAllS 65 1 (xAllCs xw_581_65) (xAllS 66 1 (xAllCs xw_581_66) (xAllS 67 1 (xAllCs xw_581_67) (xAllS 68 1 (xAllCs xw_581_68) (xAllS 69 1 (xAllCs xw_581_69) (xAllS 70 1 (xAllCs xw_581_70) (xAllS 71 1 (xAllCs xw_581_71) (xAllS 72 1 (xAllCs xw_581_72) (xAllS 73 1 (xAllCs xw_581_73) (xAllZ (by decide +kernel)))))))))))))))))))))))))))))))))))))))))))))))))))))))))))))))))))))))))))))⟩
def kc960 : xC := kO 10 [kI 0, kX 20, kX 21, kX 22, kX 23, kR 1, kI 1, kI 45, kI 46, kI 47, kI 48, kJ 49, kI 50, kI 51, kI 8, kI 9, kX 24, kR 2, kX 25, kR 3, kX 26, kX 27, kX 28, kX 29, kI 26, kI 27, kI 28, kI 29, kI 30, kI 31, kI 32, kX 30, kX 31, kX 32, kX 33, kX 34, kX 35, kX 36, kI 33, kX 37, kX 38, kI 34, kI 35, kI 36, kX 39, kX 40, kX 41, kX 42, kX 43, kI 37, kI 38, kI 39, kI 40, kI 41, kI 42, kX 44]
def kc961 : xC := kAr 0 55 [(1, kS 10), (5, kB3), (1, kS 11), (1, kS 12), (3, kB3), (1, kS 13), (5, kB3), (1, kS 14), (1, kS 15), (3, kB3), (1, kS 16), (5, kB3), (1, kS 17), (1, kS 18), (3, kB3), (1, kS 19), (5, kB3), (1, kS 20), (1, kS 21), (3, kB3), (1, kS 22), (5, kB3), (1, kS 23), (1, kS 24), (1, kSc 1), (1, kS 25), (1, kB3)]
def kc962 : xC := kAr 0 120 [(96, kB 0 27), (24, kB 0 0)]
def kb138 : List xB := [kA3, (0, 800), (0, 800), kA3, kA3, kA3, kA6, kA3, kA3, kA3, (0, 24), (0, 6), (0, 30), (0, 24), (0, 6), (0, 30), (0, 24), (0, 6), (0, 30), (0, 24), (0, 6), (0, 30), (0, 24), (0, 6), (0, 30), kA3, kA3, kA3, kA3, kA3, kA3, kA3, kA3, kA3, kA3, kA3, kA3, kA3, kA3, kA3, kA3, kA3, kA3, (8, 8), (1, 9), (0, 800), kA3, kA3, kA3, kA6, (1, 2), kA3]
def kc963 : xC := kO 10 [kI 0, kX 20, kX 21, kX 22, kX 23, kR 1, kI 1, kI 45, kI 46, kI 47, kI 48, kJ 49, kIc 0, kI 7, kI 8, kI 9, kX 24, kR 2, kX 25, kR 3, kX 26, kX 27, kX 28, kX 29, kI 26, kI 27, kI 28, kI 29, kI 30, kI 31, kI 32, kX 30, kX 31, kX 32, kX 33, kX 34, kX 35, kX 36, kI 33, kX 37, kX 38, kI 34, kI 35, kI 36, kX 39, kX 40, kX 41, kX 42, kX 43, kI 37, kI 38, kI 39, kI 40, kI 41, kI 42, kX 44]
def kc964 : xC := kAr 0 120 [(96, kB 0 27), (24, kB 0 9)]
def kb139 : List xB := [kA3, (0, 800), (0, 800), kA3, kA3, kA3, kA6, kA3, kA3, kA3, (0, 24), (0, 6), (0, 30), (0, 24), (0, 6), (0, 30), (0, 24), (0, 6), (0, 30), (0, 24), (0, 6), (0, 30), (0, 24), (0, 6), (0, 30), kA3, kA3, kA3, kA3, kA3, kA3, kA3, kA3, kA3, kA3, kA3, kA3, kA3, kA3, kA3, kA3, kA3, kA3, (8, 8), (1, 9), (0, 800), (0, 2), kA3, kA3, kA6]
def kc965 : xC := kO 10 [kI 0, kX 20, kX 21, kX 22, kX 23, kR 1, kI 1, kI 45, kI 46, kI 47, kIc 0, kJc 0, kIc 0, kI 7, kI 8, kI 9, kX 24, kR 2, kX 25, kR 3, kX 26, kX 27, kX 28, kX 29, kI 26, kI 27, kI 28, kI 29, kI 30, kI 31, kI 32, kX 30, kX 31, kX 32, kX 33, kX 34, kX 35, kX 36, kI 33, kX 37, kX 38, kI 34, kI 35, kI 36, kX 39, kX 40, kX 41, kX 42, kX 43, kI 37, kI 38, kI 39, kI 40, kI 41, kI 42, kX 44]
def kb140 : List xB := [kA3, (0, 800), (0, 800), kA3, kA3, kA3, kA6, kA3, kA3, kA3, (0, 24), (0, 6), (0, 30), (0, 24), (0, 6), (0, 30), (0, 24), (0, 6), (0, 30), (0, 24), (0, 6), (0, 30), (0, 24), (0, 6), (0, 30), kA3, kA3, kA3, kA3, kA3, kA3, kA3, kA3, kA3, kA3, kA3, kA3, kA3, kA3, kA3, kA3, kA3, kA3, (8, 8), (1, 9), (0, 800), (3, 4), kA3]
def xe_582_0 : xPt := ([kc960, kc185, kc961, kc962], kb138, [([(45, (-1)), (1, 1)], 0), ([(45, 1), (2, (-1))], 0)], [], 25)
def xe_582_1 : xPt := ([kc963, kc185, kc961, kc964], kb139, [([(45, (-1)), (1, 1)], 0), ([(45, 1), (2, (-1))], 0)], [], 25)
def xe_582_2 : xPt := ([kc965, kc185, kc961, kc964], kb140, [([(45, (-1)), (1, 1)], 0), ([(45, 1), (2, (-1))], (-1))], [], 25)
def kc966 : xC := kO 10 [kI 0, kX 20, kX 21, kX 22, kX 23, kR 1, kI 1, kI 2, kI 3, kI 4, kI 5, kJ 6, kIc 0, kI 7, kI 8, kI 9, kX 24, kR 2, kX 25, kR 3, kX 26, kX 27, kX 28, kX 29, kI 26, kI 27, kI 28, kI 29, kI 30, kI 31, kI 32, kX 30, kX 31, kX 32, kX 33, kX 34, kX 35, kX 36, kI 33, kX 37, kX 38, kI 34, kI 35, kI 36, kX 39, kX 40, kX 41, kX 42, kX 43, kI 37, kI 38, kI 39, kI 40, kI 41, kI 42, kX 44]
def kc967 : xC := kAr 0 55 [(1, kS 10), (5, kB3), (1, kS 11), (1, kS 12), (3, kB3), (1, kS 13), (5, kB3), (1, kS 14), (1, kS 15), (3, kB3), (1, kS 16), (5, kB3), (1, kS 17), (1, kS 18), (3, kB3), (1, kS 19), (5, kB3), (1, kS 20), (1, kS 21), (3, kB3), (1, kS 22), (5, kB3), (1, kS 23), (1, kS 24), (1, kSc 0), (1, kS 25), (1, kB3)]
def kb141 : List xB := [kA3, (0, 800), (0, 800), kA3, kA3, kA3, kA6, kA3, kA3, kA3, (0, 24), (0, 6), (0, 30), (0, 24), (0, 6), (0, 30), (0, 24), (0, 6), (0, 30), (0, 24), (0, 6), (0, 30), (0, 24), (0, 6), (0, 30), kA3, kA3, kA3, kA3, kA3, kA3, kA3, kA3, kA3, kA3, kA3, kA3, kA3, kA3, kA3, kA3, kA3, kA3, (8, 8), (1, 9)]
def kc968 : xC := kAr 0 120 [(96, kB 0 27), (23, kB 0 9), (1, kB 0 0)]
def kb142 : List xB := [kA3, (0, 800), (0, 800), kA3, kA3, kA3, kA6, kA3, kA3, kA3, (0, 24), (0, 6), (0, 30), (0, 24), (0, 6), (0, 30), (0, 24), (0, 6), (0, 30), (0, 24), (0, 6), (0, 30), (0, 24), (0, 6), (0, 30), kA3, kA3, kA3, kA3, kA3, kA3, kA3, kA3, kA3, kA3, kA3, kA3, kA3, kA3, kA3, kA3, kA3, kA3, (8, 8), (1, 9), (0, 800), (3, 4), kA3, (0, 23), (0, 23)]
def kc969 : xC := kAr 0 120 [(96, kB 0 27), (22, kB 0 9), (2, kB 0 0)]
def kb143 : List xB := [kA3, (0, 800), (0, 800), kA3, kA3, kA3, kA6, kA3, kA3, kA3, (0, 24), (0, 6), (0, 30), (0, 24), (0, 6), (0, 30), (0, 24), (0, 6), (0, 30), (0, 24), (0, 6), (0, 30), (0, 24), (0, 6), (0, 30), kA3, kA3, kA3, kA3, kA3, kA3, kA3, kA3, kA3, kA3, kA3, kA3, kA3, kA3, kA3, kA3, kA3, kA3, (8, 8), (1, 9), (0, 800), (3, 4), kA3, (0, 22), (0, 23)]
def kc970 : xC := kAr 0 120 [(96, kB 0 27), (21, kB 0 9), (3, kB 0 0)]
def kb144 : List xB := [kA3, (0, 800), (0, 800), kA3, kA3, kA3, kA6, kA3, kA3, kA3, (0, 24), (0, 6), (0, 30), (0, 24), (0, 6), (0, 30), (0, 24), (0, 6), (0, 30), (0, 24), (0, 6), (0, 30), (0, 24), (0, 6), (0, 30), kA3, kA3, kA3, kA3, kA3, kA3, kA3, kA3, kA3, kA3, kA3, kA3, kA3, kA3, kA3, kA3, kA3, kA3, (8, 8), (1, 9), (0, 800), (3, 4), kA3, (0, 21), (0, 23)]
def kc971 : xC := kAr 0 120 [(96, kB 0 27), (20, kB 0 9), (4, kB 0 0)]
def kb145 : List xB := [kA3, (0, 800), (0, 800), kA3, kA3, kA3, kA6, kA3, kA3, kA3, (0, 24), (0, 6), (0, 30), (0, 24), (0, 6), (0, 30), (0, 24), (0, 6), (0, 30), (0, 24), (0, 6), (0, 30), (0, 24), (0, 6), (0, 30), kA3, kA3, kA3, kA3, kA3, kA3, kA3, kA3, kA3, kA3, kA3, kA3, kA3, kA3, kA3, kA3, kA3, kA3, (8, 8), (1, 9), (0, 800), (3, 4), kA3, (0, 20), (0, 23)]
def kc972 : xC := kAr 0 120 [(96, kB 0 27), (19, kB 0 9), (5, kB 0 0)]
def kb146 : List xB := [kA3, (0, 800), (0, 800), kA3, kA3, kA3, kA6, kA3, kA3, kA3, (0, 24), (0, 6), (0, 30), (0, 24), (0, 6), (0, 30), (0, 24), (0, 6), (0, 30), (0, 24), (0, 6), (0, 30), (0, 24), (0, 6), (0, 30), kA3, kA3, kA3, kA3, kA3, kA3, kA3, kA3, kA3, kA3, kA3, kA3, kA3, kA3, kA3, kA3, kA3, kA3, (8, 8), (1, 9), (0, 800), (3, 4), kA3, (0, 19), (0, 23)]
def kc973 : xC := kAr 0 120 [(96, kB 0 27), (18, kB 0 9), (6, kB 0 0)]
def kb147 : List xB := [kA3, (0, 800), (0, 800), kA3, kA3, kA3, kA6, kA3, kA3, kA3, (0, 24), (0, 6), (0, 30), (0, 24), (0, 6), (0, 30), (0, 24), (0, 6), (0, 30), (0, 24), (0, 6), (0, 30), (0, 24), (0, 6), (0, 30), kA3, kA3, kA3, kA3, kA3, kA3, kA3, kA3, kA3, kA3, kA3, kA3, kA3, kA3, kA3, kA3, kA3, kA3, (8, 8), (1, 9), (0, 800), (3, 4), kA3, (0, 18), (0, 23)]
def kc974 : xC := kAr 0 120 [(96, kB 0 27), (17, kB 0 9), (7, kB 0 0)]
def kb148 : List xB := [kA3, (0, 800), (0, 800), kA3, kA3, kA3, kA6, kA3, kA3, kA3, (0, 24), (0, 6), (0, 30), (0, 24), (0, 6), (0, 30), (0, 24), (0, 6), (0, 30), (0, 24), (0, 6), (0, 30), (0, 24), (0, 6), (0, 30), kA3, kA3, kA3, kA3, kA3, kA3, kA3, kA3, kA3, kA3, kA3, kA3, kA3, kA3, kA3, kA3, kA3, kA3, (8, 8), (1, 9), (0, 800), (3, 4), kA3, (0, 17), (0, 23)]
def kc975 : xC := kAr 0 120 [(96, kB 0 27), (16, kB 0 9), (8, kB 0 0)]
def kb149 : List xB := [kA3, (0, 800), (0, 800), kA3, kA3, kA3, kA6, kA3, kA3, kA3, (0, 24), (0, 6), (0, 30), (0, 24), (0, 6), (0, 30), (0, 24), (0, 6), (0, 30), (0, 24), (0, 6), (0, 30), (0, 24), (0, 6), (0, 30), kA3, kA3, kA3, kA3, kA3, kA3, kA3, kA3, kA3, kA3, kA3, kA3, kA3, kA3, kA3, kA3, kA3, kA3, (8, 8), (1, 9), (0, 800), (3, 4), kA3, (0, 16), (0, 23)]
def kc976 : xC := kAr 0 120 [(96, kB 0 27), (15, kB 0 9), (9, kB 0 0)]
def kb150 : List xB := [kA3, (0, 800), (0, 800), kA3, kA3, kA3, kA6, kA3, kA3, kA3, (0, 24), (0, 6), (0, 30), (0, 24), (0, 6), (0, 30), (0, 24), (0, 6), (0, 30), (0, 24), (0, 6), (0, 30), (0, 24), (0, 6), (0, 30), kA3, kA3, kA3, kA3, kA3, kA3, kA3, kA3, kA3, kA3, kA3, kA3, kA3, kA3, kA3, kA3, kA3, kA3, (8, 8), (1, 9), (0, 800), (3, 4), kA3, (0, 15), (0, 23)]
def kc977 : xC := kAr 0 120 [(96, kB 0 27), (14, kB 0 9), (10, kB 0 0)]
def kb151 : List xB := [kA3, (0, 800), (0, 800), kA3, kA3, kA3, kA6, kA3, kA3, kA3, (0, 24), (0, 6), (0, 30), (0, 24), (0, 6), (0, 30), (0, 24), (0, 6), (0, 30), (0, 24), (0, 6), (0, 30), (0, 24), (0, 6), (0, 30), kA3, kA3, kA3, kA3, kA3, kA3, kA3, kA3, kA3, kA3, kA3, kA3, kA3, kA3, kA3, kA3, kA3, kA3, (8, 8), (1, 9), (0, 800), (3, 4), kA3, (0, 14), (0, 23)]
def kc978 : xC := kAr 0 120 [(96, kB 0 27), (13, kB 0 9), (11, kB 0 0)]
def kb152 : List xB := [kA3, (0, 800), (0, 800), kA3, kA3, kA3, kA6, kA3, kA3, kA3, (0, 24), (0, 6), (0, 30), (0, 24), (0, 6), (0, 30), (0, 24), (0, 6), (0, 30), (0, 24), (0, 6), (0, 30), (0, 24), (0, 6), (0, 30), kA3, kA3, kA3, kA3, kA3, kA3, kA3, kA3, kA3, kA3, kA3, kA3, kA3, kA3, kA3, kA3, kA3, kA3, (8, 8), (1, 9), (0, 800), (3, 4), kA3, (0, 13), (0, 23)]
def kc979 : xC := kAr 0 120 [(96, kB 0 27), (12, kB 0 9), (12, kB 0 0)]
def kb153 : List xB := [kA3, (0, 800), (0, 800), kA3, kA3, kA3, kA6, kA3, kA3, kA3, (0, 24), (0, 6), (0, 30), (0, 24), (0, 6), (0, 30), (0, 24), (0, 6), (0, 30), (0, 24), (0, 6), (0, 30), (0, 24), (0, 6), (0, 30), kA3, kA3, kA3, kA3, kA3, kA3, kA3, kA3, kA3, kA3, kA3, kA3, kA3, kA3, kA3, kA3, kA3, kA3, (8, 8), (1, 9), (0, 800), (3, 4), kA3, (0, 12), (0, 23)]
def kc980 : xC := kAr 0 120 [(96, kB 0 27), (11, kB 0 9), (13, kB 0 0)]
def kb154 : List xB := [kA3, (0, 800), (0, 800), kA3, kA3, kA3, kA6, kA3, kA3, kA3, (0, 24), (0, 6), (0, 30), (0, 24), (0, 6), (0, 30), (0, 24), (0, 6), (0, 30), (0, 24), (0, 6), (0, 30), (0, 24), (0, 6), (0, 30), kA3, kA3, kA3, kA3, kA3, kA3, kA3, kA3, kA3, kA3, kA3, kA3, kA3, kA3, kA3, kA3, kA3, kA3, (8, 8), (1, 9), (0, 800), (3, 4), kA3, (0, 11), (0, 23)]
def kc981 : xC := kAr 0 120 [(96, kB 0 27), (10, kB 0 9), (14, kB 0 0)]
def kb155 : List xB := [kA3, (0, 800), (0, 800), kA3, kA3, kA3, kA6, kA3, kA3, kA3, (0, 24), (0, 6), (0, 30), (0, 24), (0, 6), (0, 30), (0, 24), (0, 6), (0, 30), (0, 24), (0, 6), (0, 30), (0, 24), (0, 6), (0, 30), kA3, kA3, kA3, kA3, kA3, kA3, kA3, kA3, kA3, kA3, kA3, kA3, kA3, kA3, kA3, kA3, kA3, kA3, (8, 8), (1, 9), (0, 800), (3, 4), kA3, (0, 10), (0, 23)]
def kc982 : xC := kAr 0 120 [(96, kB 0 27), (9, kB 0 9), (15, kB 0 0)]
def kb156 : List xB := [kA3, (0, 800), (0, 800), kA3, kA3, kA3, kA6, kA3, kA3, kA3, (0, 24), (0, 6), (0, 30), (0, 24), (0, 6), (0, 30), (0, 24), (0, 6), (0, 30), (0, 24), (0, 6), (0, 30), (0, 24), (0, 6), (0, 30), kA3, kA3, kA3, kA3, kA3, kA3, kA3, kA3, kA3, kA3, kA3, kA3, kA3, kA3, kA3, kA3, kA3, kA3, (8, 8), (1, 9), (0, 800), (3, 4), kA3, (0, 9), (0, 23)]
def kc983 : xC := kAr 0 120 [(96, kB 0 27), (8, kB 0 9), (16, kB 0 0)]
def kb157 : List xB := [kA3, (0, 800), (0, 800), kA3, kA3, kA3, kA6, kA3, kA3, kA3, (0, 24), (0, 6), (0, 30), (0, 24), (0, 6), (0, 30), (0, 24), (0, 6), (0, 30), (0, 24), (0, 6), (0, 30), (0, 24), (0, 6), (0, 30), kA3, kA3, kA3, kA3, kA3, kA3, kA3, kA3, kA3, kA3, kA3, kA3, kA3, kA3, kA3, kA3, kA3, kA3, (8, 8), (1, 9), (0, 800), (3, 4), kA3, (0, 8), (0, 23)]
def kc984 : xC := kAr 0 120 [(96, kB 0 27), (7, kB 0 9), (17, kB 0 0)]
def kb158 : List xB := [kA3, (0, 800), (0, 800), kA3, kA3, kA3, kA6, kA3, kA3, kA3, (0, 24), (0, 6), (0, 30), (0, 24), (0, 6), (0, 30), (0, 24), (0, 6), (0, 30), (0, 24), (0, 6), (0, 30), (0, 24), (0, 6), (0, 30), kA3, kA3, kA3, kA3, kA3, kA3, kA3, kA3, kA3, kA3, kA3, kA3, kA3, kA3, kA3, kA3, kA3, kA3, (8, 8), (1, 9), (0, 800), (3, 4), kA3, (0, 7), (0, 23)]
def kc985 : xC := kAr 0 120 [(96, kB 0 27), (6, kB 0 9), (18, kB 0 0)]
def kb159 : List xB := [kA3, (0, 800), (0, 800), kA3, kA3, kA3, kA6, kA3, kA3, kA3, (0, 24), (0, 6), (0, 30), (0, 24), (0, 6), (0, 30), (0, 24), (0, 6), (0, 30), (0, 24), (0, 6), (0, 30), (0, 24), (0, 6), (0, 30), kA3, kA3, kA3, kA3, kA3, kA3, kA3, kA3, kA3, kA3, kA3, kA3, kA3, kA3, kA3, kA3, kA3, kA3, (8, 8), (1, 9), (0, 800), (3, 4), kA3, (0, 6), (0, 23)]
def kc986 : xC := kAr 0 120 [(96, kB 0 27), (5, kB 0 9), (19, kB 0 0)]
def kb160 : List xB := [kA3, (0, 800), (0, 800), kA3, kA3, kA3, kA6, kA3, kA3, kA3, (0, 24), (0, 6), (0, 30), (0, 24), (0, 6), (0, 30), (0, 24), (0, 6), (0, 30), (0, 24), (0, 6), (0, 30), (0, 24), (0, 6), (0, 30), kA3, kA3, kA3, kA3, kA3, kA3, kA3, kA3, kA3, kA3, kA3, kA3, kA3, kA3, kA3, kA3, kA3, kA3, (8, 8), (1, 9), (0, 800), (3, 4), kA3, (0, 5), (0, 23)]
def kc987 : xC := kAr 0 120 [(96, kB 0 27), (4, kB 0 9), (20, kB 0 0)]
def kb161 : List xB := [kA3, (0, 800), (0, 800), kA3, kA3, kA3, kA6, kA3, kA3, kA3, (0, 24), (0, 6), (0, 30), (0, 24), (0, 6), (0, 30), (0, 24), (0, 6), (0, 30), (0, 24), (0, 6), (0, 30), (0, 24), (0, 6), (0, 30), kA3, kA3, kA3, kA3, kA3, kA3, kA3, kA3, kA3, kA3, kA3, kA3, kA3, kA3, kA3, kA3, kA3, kA3, (8, 8), (1, 9), (0, 800), (3, 4), kA3, (0, 4), (0, 23)]
def kc988 : xC := kAr 0 120 [(96, kB 0 27), (3, kB 0 9), (21, kB 0 0)]
def kb162 : List xB := [kA3, (0, 800), (0, 800), kA3, kA3, kA3, kA6, kA3, kA3, kA3, (0, 24), (0, 6), (0, 30), (0, 24), (0, 6), (0, 30), (0, 24), (0, 6), (0, 30), (0, 24), (0, 6), (0, 30), (0, 24), (0, 6), (0, 30), kA3, kA3, kA3, kA3, kA3, kA3, kA3, kA3, kA3, kA3, kA3, kA3, kA3, kA3, kA3, kA3, kA3, kA3, (8, 8), (1, 9), (0, 800), (3, 4), kA3, (0, 3), (0, 23)]
def kc989 : xC := kAr 0 120 [(96, kB 0 27), (2, kB 0 9), (22, kB 0 0)]
def kb163 : List xB := [kA3, (0, 800), (0, 800), kA3, kA3, kA3, kA6, kA3, kA3, kA3, (0, 24), (0, 6), (0, 30), (0, 24), (0, 6), (0, 30), (0, 24), (0, 6), (0, 30), (0, 24), (0, 6), (0, 30), (0, 24), (0, 6), (0, 30), kA3, kA3, kA3, kA3, kA3, kA3, kA3, kA3, kA3, kA3, kA3, kA3, kA3, kA3, kA3, kA3, kA3, kA3, (8, 8), (1, 9), (0, 800), (3, 4), kA3, (0, 2), (0, 23)]
def kc990 : xC := kAr 0 120 [(96, kB 0 27), (1, kB 0 9), (23, kB 0 0)]
def kb164 : List xB := [kA3, (0, 800), (0, 800), kA3, kA3, kA3, kA6, kA3, kA3, kA3, (0, 24), (0, 6), (0, 30), (0, 24), (0, 6), (0, 30), (0, 24), (0, 6), (0, 30), (0, 24), (0, 6), (0, 30), (0, 24), (0, 6), (0, 30), kA3, kA3, kA3, kA3, kA3, kA3, kA3, kA3, kA3, kA3, kA3, kA3, kA3, kA3, kA3, kA3, kA3, kA3, (8, 8), (1, 9), (0, 800), (3, 4), kA3, (0, 1), (0, 23)]
def kb165 : List xB := [kA3, (0, 800), (0, 800), kA3, kA3, kA3, kA6, kA3, kA3, kA3, (0, 24), (0, 6), (0, 30), (0, 24), (0, 6), (0, 30), (0, 24), (0, 6), (0, 30), (0, 24), (0, 6), (0, 30), (0, 24), (0, 6), (0, 30), kA3, kA3, kA3, kA3, kA3, kA3, kA3, kA3, kA3, kA3, kA3, kA3, kA3, kA3, kA3, kA3, kA3, kA3, (8, 8), (1, 9), (0, 800), (3, 4), kA3, (0, 23)]
def kb166 : List xB := [kA3, (0, 800), (0, 800), kA3, kA3, kA3, kA6, kA3, kA3, kA3, (0, 24), (0, 6), (0, 30), (0, 24), (0, 6), (0, 30), (0, 24), (0, 6), (0, 30), (0, 24), (0, 6), (0, 30), (0, 24), (0, 6), (0, 30), kA3, kA3, kA3, kA3, kA3, kA3, kA3, kA3, kA3, kA3, kA3, kA3, kA3, kA3, kA3, kA3, kA3, kA3, (8, 8), (1, 9), (0, 800), (0, 2), kA3, kA3, kA6, (0, 23), (0, 23)]
def kb167 : List xB := [kA3, (0, 800), (0, 800), kA3, kA3, kA3, kA6, kA3, kA3, kA3, (0, 24), (0, 6), (0, 30), (0, 24), (0, 6), (0, 30), (0, 24), (0, 6), (0, 30), (0, 24), (0, 6), (0, 30), (0, 24), (0, 6), (0, 30), kA3, kA3, kA3, kA3, kA3, kA3, kA3, kA3, kA3, kA3, kA3, kA3, kA3, kA3, kA3, kA3, kA3, kA3, (8, 8), (1, 9), (0, 800), (0, 2), kA3, kA3, kA6, (0, 22), (0, 23)]
def kb168 : List xB := [kA3, (0, 800), (0, 800), kA3, kA3, kA3, kA6, kA3, kA3, kA3, (0, 24), (0, 6), (0, 30), (0, 24), (0, 6), (0, 30), (0, 24), (0, 6), (0, 30), (0, 24), (0, 6), (0, 30), (0, 24), (0, 6), (0, 30), kA3, kA3, kA3, kA3, kA3, kA3, kA3, kA3, kA3, kA3, kA3, kA3, kA3, kA3, kA3, kA3, kA3, kA3, (8, 8), (1, 9), (0, 800), (0, 2), kA3, kA3, kA6, (0, 21), (0, 23)]
def kb169 : List xB := [kA3, (0, 800), (0, 800), kA3, kA3, kA3, kA6, kA3, kA3, kA3, (0, 24), (0, 6), (0, 30), (0, 24), (0, 6), (0, 30), (0, 24), (0, 6), (0, 30), (0, 24), (0, 6), (0, 30), (0, 24), (0, 6), (0, 30), kA3, kA3, kA3, kA3, kA3, kA3, kA3, kA3, kA3, kA3, kA3, kA3, kA3, kA3, kA3, kA3, kA3, kA3, (8, 8), (1, 9), (0, 800), (0, 2), kA3, kA3, kA6, (0, 20), (0, 23)]
def kb170 : List xB := [kA3, (0, 800), (0, 800), kA3, kA3, kA3, kA6, kA3, kA3, kA3, (0, 24), (0, 6), (0, 30), (0, 24), (0, 6), (0, 30), (0, 24), (0, 6), (0, 30), (0, 24), (0, 6), (0, 30), (0, 24), (0, 6), (0, 30), kA3, kA3, kA3, kA3, kA3, kA3, kA3, kA3, kA3, kA3, kA3, kA3, kA3, kA3, kA3, kA3, kA3, kA3, (8, 8), (1, 9), (0, 800), (0, 2), kA3, kA3, kA6, (0, 19), (0, 23)]
def kb171 : List xB := [kA3, (0, 800), (0, 800), kA3, kA3, kA3, kA6, kA3, kA3, kA3, (0, 24), (0, 6), (0, 30), (0, 24), (0, 6), (0, 30), (0, 24), (0, 6), (0, 30), (0, 24), (0, 6), (0, 30), (0, 24), (0, 6), (0, 30), kA3, kA3, kA3, kA3, kA3, kA3, kA3, kA3, kA3, kA3, kA3, kA3, kA3, kA3, kA3, kA3, kA3, kA3, (8, 8), (1, 9), (0, 800), (0, 2), kA3, kA3, kA6, (0, 18), (0, 23)]
def kb172 : List xB := [kA3, (0, 800), (0, 800), kA3, kA3, kA3, kA6, kA3, kA3, kA3, (0, 24), (0, 6), (0, 30), (0, 24), (0, 6), (0, 30), (0, 24), (0, 6), (0, 30), (0, 24), (0, 6), (0, 30), (0, 24), (0, 6), (0, 30), kA3, kA3, kA3, kA3, kA3, kA3, kA3, kA3, kA3, kA3, kA3, kA3, kA3, kA3, kA3, kA3, kA3, kA3, (8, 8), (1, 9), (0, 800), (0, 2), kA3, kA3, kA6, (0, 17), (0, 23)]
def kb173 : List xB := [kA3, (0, 800), (0, 800), kA3, kA3, kA3, kA6, kA3, kA3, kA3, (0, 24), (0, 6), (0, 30), (0, 24), (0, 6), (0, 30), (0, 24), (0, 6), (0, 30), (0, 24), (0, 6), (0, 30), (0, 24), (0, 6), (0, 30), kA3, kA3, kA3, kA3, kA3, kA3, kA3, kA3, kA3, kA3, kA3, kA3, kA3, kA3, kA3, kA3, kA3, kA3, (8, 8), (1, 9), (0, 800), (0, 2), kA3, kA3, kA6, (0, 16), (0, 23)]
def kb174 : List xB := [kA3, (0, 800), (0, 800), kA3, kA3, kA3, kA6, kA3, kA3, kA3, (0, 24), (0, 6), (0, 30), (0, 24), (0, 6), (0, 30), (0, 24), (0, 6), (0, 30), (0, 24), (0, 6), (0, 30), (0, 24), (0, 6), (0, 30), kA3, kA3, kA3, kA3, kA3, kA3, kA3, kA3, kA3, kA3, kA3, kA3, kA3, kA3, kA3, kA3, kA3, kA3, (8, 8), (1, 9), (0, 800), (0, 2), kA3, kA3, kA6, (0, 15), (0, 23)]
def kb175 : List xB := [kA3, (0, 800), (0, 800), kA3, kA3, kA3, kA6, kA3, kA3, kA3, (0, 24), (0, 6), (0, 30), (0, 24), (0, 6), (0, 30), (0, 24), (0, 6), (0, 30), (0, 24), (0, 6), (0, 30), (0, 24), (0, 6), (0, 30), kA3, kA3, kA3, kA3, kA3, kA3, kA3, kA3, kA3, kA3, kA3, kA3, kA3, kA3, kA3, kA3, kA3, kA3, (8, 8), (1, 9), (0, 800), (0, 2), kA3, kA3, kA6, (0, 14), (0, 23)]
def kb176 : List xB := [kA3, (0, 800), (0, 800), kA3, kA3, kA3, kA6, kA3, kA3, kA3, (0, 24), (0, 6), (0, 30), (0, 24), (0, 6), (0, 30), (0, 24), (0, 6), (0, 30), (0, 24), (0, 6), (0, 30), (0, 24), (0, 6), (0, 30), kA3, kA3, kA3, kA3, kA3, kA3, kA3, kA3, kA3, kA3, kA3, kA3, kA3, kA3, kA3, kA3, kA3, kA3, (8, 8), (1, 9), (0, 800), (0, 2), kA3, kA3, kA6, (0, 13), (0, 23)]
def kb177 : List xB := [kA3, (0, 800), (0, 800), kA3, kA3, kA3, kA6, kA3, kA3, kA3, (0, 24), (0, 6), (0, 30), (0, 24), (0, 6), (0, 30), (0, 24), (0, 6), (0, 30), (0, 24), (0, 6), (0, 30), (0, 24), (0, 6), (0, 30), kA3, kA3, kA3, kA3, kA3, kA3, kA3, kA3, kA3, kA3, kA3, kA3, kA3, kA3, kA3, kA3, kA3, kA3, (8, 8), (1, 9), (0, 800), (0, 2), kA3, kA3, kA6, (0, 12), (0, 23)]
def kb178 : List xB := [kA3, (0, 800), (0, 800), kA3, kA3, kA3, kA6, kA3, kA3, kA3, (0, 24), (0, 6), (0, 30), (0, 24), (0, 6), (0, 30), (0, 24), (0, 6), (0, 30), (0, 24), (0, 6), (0, 30), (0, 24), (0, 6), (0, 30), kA3, kA3, kA3, kA3, kA3, kA3, kA3, kA3, kA3, kA3, kA3, kA3, kA3, kA3, kA3, kA3, kA3, kA3, (8, 8), (1, 9), (0, 800), (0, 2), kA3, kA3, kA6, (0, 11), (0, 23)]
def kb179 : List xB := [kA3, (0, 800), (0, 800), kA3, kA3, kA3, kA6, kA3, kA3, kA3, (0, 24), (0, 6), (0, 30), (0, 24), (0, 6), (0, 30), (0, 24), (0, 6), (0, 30), (0, 24), (0, 6), (0, 30), (0, 24), (0, 6), (0, 30), kA3, kA3, kA3, kA3, kA3, kA3, kA3, kA3, kA3, kA3, kA3, kA3, kA3, kA3, kA3, kA3, kA3, kA3, (8, 8), (1, 9), (0, 800), (0, 2), kA3, kA3, kA6, (0, 10), (0, 23)]
def kb180 : List xB := [kA3, (0, 800), (0, 800), kA3, kA3, kA3, kA6, kA3, kA3, kA3, (0, 24), (0, 6), (0, 30), (0, 24), (0, 6), (0, 30), (0, 24), (0, 6), (0, 30), (0, 24), (0, 6), (0, 30), (0, 24), (0, 6), (0, 30), kA3, kA3, kA3, kA3, kA3, kA3, kA3, kA3, kA3, kA3, kA3, kA3, kA3, kA3, kA3, kA3, kA3, kA3, (8, 8), (1, 9), (0, 800), (0, 2), kA3, kA3, kA6, (0, 9), (0, 23)]
def kb181 : List xB := [kA3, (0, 800), (0, 800), kA3, kA3, kA3, kA6, kA3, kA3, kA3, (0, 24), (0, 6), (0, 30), (0, 24), (0, 6), (0, 30), (0, 24), (0, 6), (0, 30), (0, 24), (0, 6), (0, 30), (0, 24), (0, 6), (0, 30), kA3, kA3, kA3, kA3, kA3, kA3, kA3, kA3, kA3, kA3, kA3, kA3, kA3, kA3, kA3, kA3, kA3, kA3, (8, 8), (1, 9), (0, 800), (0, 2), kA3, kA3, kA6, (0, 8), (0, 23)]
def kb182 : List xB := [kA3, (0, 800), (0, 800), kA3, kA3, kA3, kA6, kA3, kA3, kA3, (0, 24), (0, 6), (0, 30), (0, 24), (0, 6), (0, 30), (0, 24), (0, 6), (0, 30), (0, 24), (0, 6), (0, 30), (0, 24), (0, 6), (0, 30), kA3, kA3, kA3, kA3, kA3, kA3, kA3, kA3, kA3, kA3, kA3, kA3, kA3, kA3, kA3, kA3, kA3, kA3, (8, 8), (1, 9), (0, 800), (0, 2), kA3, kA3, kA6, (0, 7), (0, 23)]
def kb183 : List xB := [kA3, (0, 800), (0, 800), kA3, kA3, kA3, kA6, kA3, kA3, kA3, (0, 24), (0, 6), (0, 30), (0, 24), (0, 6), (0, 30), (0, 24), (0, 6), (0, 30), (0, 24), (0, 6), (0, 30), (0, 24), (0, 6), (0, 30), kA3, kA3, kA3, kA3, kA3, kA3, kA3, kA3, kA3, kA3, kA3, kA3, kA3, kA3, kA3, kA3, kA3, kA3, (8, 8), (1, 9), (0, 800), (0, 2), kA3, kA3, kA6, (0, 6), (0, 23)]
def kb184 : List xB := [kA3, (0, 800), (0, 800), kA3, kA3, kA3, kA6, kA3, kA3, kA3, (0, 24), (0, 6), (0, 30), (0, 24), (0, 6), (0, 30), (0, 24), (0, 6), (0, 30), (0, 24), (0, 6), (0, 30), (0, 24), (0, 6), (0, 30), kA3, kA3, kA3, kA3, kA3, kA3, kA3, kA3, kA3, kA3, kA3, kA3, kA3, kA3, kA3, kA3, kA3, kA3, (8, 8), (1, 9), (0, 800), (0, 2), kA3, kA3, kA6, (0, 5), (0, 23)]
def kb185 : List xB := [kA3, (0, 800), (0, 800), kA3, kA3, kA3, kA6, kA3, kA3, kA3, (0, 24), (0, 6), (0, 30), (0, 24), (0, 6), (0, 30), (0, 24), (0, 6), (0, 30), (0, 24), (0, 6), (0, 30), (0, 24), (0, 6), (0, 30), kA3, kA3, kA3, kA3, kA3, kA3, kA3, kA3, kA3, kA3, kA3, kA3, kA3, kA3, kA3, kA3, kA3, kA3, (8, 8), (1, 9), (0, 800), (0, 2), kA3, kA3, kA6, (0, 4), (0, 23)]
def kb186 : List xB := [kA3, (0, 800), (0, 800), kA3, kA3, kA3, kA6, kA3, kA3, kA3, (0, 24), (0, 6), (0, 30), (0, 24), (0, 6), (0, 30), (0, 24), (0, 6), (0, 30), (0, 24), (0, 6), (0, 30), (0, 24), (0, 6), (0, 30), kA3, kA3, kA3, kA3, kA3, kA3, kA3, kA3, kA3, kA3, kA3, kA3, kA3, kA3, kA3, kA3, kA3, kA3, (8, 8), (1, 9), (0, 800), (0, 2), kA3, kA3, kA6, (0, 3), (0, 23)]
def kb187 : List xB := [kA3, (0, 800), (0, 800), kA3, kA3, kA3, kA6, kA3, kA3, kA3, (0, 24), (0, 6), (0, 30), (0, 24), (0, 6), (0, 30), (0, 24), (0, 6), (0, 30), (0, 24), (0, 6), (0, 30), (0, 24), (0, 6), (0, 30), kA3, kA3, kA3, kA3, kA3, kA3, kA3, kA3, kA3, kA3, kA3, kA3, kA3, kA3, kA3, kA3, kA3, kA3, (8, 8), (1, 9), (0, 800), (0, 2), kA3, kA3, kA6, (0, 2), (0, 23)]
def kb188 : List xB := [kA3, (0, 800), (0, 800), kA3, kA3, kA3, kA6, kA3, kA3, kA3, (0, 24), (0, 6), (0, 30), (0, 24), (0, 6), (0, 30), (0, 24), (0, 6), (0, 30), (0, 24), (0, 6), (0, 30), (0, 24), (0, 6), (0, 30), kA3, kA3, kA3, kA3, kA3, kA3, kA3, kA3, kA3, kA3, kA3, kA3, kA3, kA3, kA3, kA3, kA3, kA3, (8, 8), (1, 9), (0, 800), (0, 2), kA3, kA3, kA6, (0, 1), (0, 23)]
def kb189 : List xB := [kA3, (0, 800), (0, 800), kA3, kA3, kA3, kA6, kA3, kA3, kA3, (0, 24), (0, 6), (0, 30), (0, 24), (0, 6), (0, 30), (0, 24), (0, 6), (0, 30), (0, 24), (0, 6), (0, 30), (0, 24), (0, 6), (0, 30), kA3, kA3, kA3, kA3, kA3, kA3, kA3, kA3, kA3, kA3, kA3, kA3, kA3, kA3, kA3, kA3, kA3, kA3, (8, 8), (1, 9), (0, 800), (0, 2), kA3, kA3, kA6, (0, 23)]
def kc991 : xC := kAr 0 120 [(96, kB 0 27), (23, kB 0 9), (1, kS 44)]
def xq_582_0 : xCu := (29, [0, 1, 2, 3, 4, 5, 6], ([kc965, kc185, kc967, kc968], kb142, [([(2, (-1)), (1, 1)], 0), ([(45, (-1)), (1, 1)], 0), ([(45, 1), (2, (-1))], (-1))], [kR 0, kR 3, kI 43, kI 44, kI 48, kI 49, kIc 23], 25), ([], 1))
def xq_582_1 : xCu := (29, [0, 1, 2, 3, 4, 5, 6], ([kc965, kc185, kc967, kc969], kb143, [([(2, (-1)), (1, 1)], 0), ([(45, (-1)), (1, 1)], 0), ([(45, 1), (2, (-1))], (-1))], [kR 0, kR 3, kI 43, kI 44, kI 48, kI 49, kIc 22], 25), ([], 2))
def xq_582_2 : xCu := (29, [0, 1, 2, 3, 4, 5, 6], ([kc965, kc185, kc967, kc970], kb144, [([(2, (-1)), (1, 1)], 0), ([(45, (-1)), (1, 1)], 0), ([(45, 1), (2, (-1))], (-1))], [kR 0, kR 3, kI 43, kI 44, kI 48, kI 49, kIc 21], 25), ([], 3))
def xq_582_3 : xCu := (29, [0, 1, 2, 3, 4, 5, 6], ([kc965, kc185, kc967, kc971], kb145, [([(2, (-1)), (1, 1)], 0), ([(45, (-1)), (1, 1)], 0), ([(45, 1), (2, (-1))], (-1))], [kR 0, kR 3, kI 43, kI 44, kI 48, kI 49, kIc 20], 25), ([], 4))
def xq_582_4 : xCu := (29, [0, 1, 2, 3, 4, 5, 6], ([kc965, kc185, kc967, kc972], kb146, [([(2, (-1)), (1, 1)], 0), ([(45, (-1)), (1, 1)], 0), ([(45, 1), (2, (-1))], (-1))], [kR 0, kR 3, kI 43, kI 44, kI 48, kI 49, kIc 19], 25), ([], 5))
def xq_582_5 : xCu := (29, [0, 1, 2, 3, 4, 5, 6], ([kc965, kc185, kc967, kc973], kb147, [([(2, (-1)), (1, 1)], 0), ([(45, (-1)), (1, 1)], 0), ([(45, 1), (2, (-1))], (-1))], [kR 0, kR 3, kI 43, kI 44, kI 48, kI 49, kIc 18], 25), ([], 6))
def xq_582_6 : xCu := (29, [0, 1, 2, 3, 4, 5, 6], ([kc965, kc185, kc967, kc974], kb148, [([(2, (-1)), (1, 1)], 0), ([(45, (-1)), (1, 1)], 0), ([(45, 1), (2, (-1))], (-1))], [kR 0, kR 3, kI 43, kI 44, kI 48, kI 49, kIc 17], 25), ([], 7))
def xq_582_7 : xCu := (29, [0, 1, 2, 3, 4, 5, 6], ([kc965, kc185, kc967, kc975], kb149, [([(2, (-1)), (1, 1)], 0), ([(45, (-1)), (1, 1)], 0), ([(45, 1), (2, (-1))], (-1))], [kR 0, kR 3, kI 43, kI 44, kI 48, kI 49, kIc 16], 25), ([], 8))
def xq_582_8 : xCu := (29, [0, 1, 2, 3, 4, 5, 6], ([kc965, kc185, kc967, kc976], kb150, [([(2, (-1)), (1, 1)], 0), ([(45, (-1)), (1, 1)], 0), ([(45, 1), (2, (-1))], (-1))], [kR 0, kR 3, kI 43, kI 44, kI 48, kI 49, kIc 15], 25), ([], 9))
def xq_582_9 : xCu := (29, [0, 1, 2, 3, 4, 5, 6], ([kc965, kc185, kc967, kc977], kb151, [([(2, (-1)), (1, 1)], 0), ([(45, (-1)), (1, 1)], 0), ([(45, 1), (2, (-1))], (-1))], [kR 0, kR 3, kI 43, kI 44, kI 48, kI 49, kIc 14], 25), ([], 10))
def xq_582_10 : xCu := (29, [0, 1, 2, 3, 4, 5, 6], ([kc965, kc185, kc967, kc978], kb152, [([(2, (-1)), (1, 1)], 0), ([(45, (-1)), (1, 1)], 0), ([(45, 1), (2, (-1))], (-1))], [kR 0, kR 3, kI 43, kI 44, kI 48, kI 49, kIc 13], 25), ([], 11))
def xq_582_11 : xCu := (29, [0, 1, 2, 3, 4, 5, 6], ([kc965, kc185, kc967, kc979], kb153, [([(2, (-1)), (1, 1)], 0), ([(45, (-1)), (1, 1)], 0), ([(45, 1), (2, (-1))], (-1))], [kR 0, kR 3, kI 43, kI 44, kI 48, kI 49, kIc 12], 25), ([], 12))
def xq_582_12 : xCu := (29, [0, 1, 2, 3, 4, 5, 6], ([kc965, kc185, kc967, kc980], kb154, [([(2, (-1)), (1, 1)], 0), ([(45, (-1)), (1, 1)], 0), ([(45, 1), (2, (-1))], (-1))], [kR 0, kR 3, kI 43, kI 44, kI 48, kI 49, kIc 11], 25), ([], 13))
def xq_582_13 : xCu := (29, [0, 1, 2, 3, 4, 5, 6], ([kc965, kc185, kc967, kc981], kb155, [([(2, (-1)), (1, 1)], 0), ([(45, (-1)), (1, 1)], 0), ([(45, 1), (2, (-1))], (-1))], [kR 0, kR 3, kI 43, kI 44, kI 48, kI 49, kIc 10], 25), ([], 14))
def xq_582_14 : xCu := (29, [0, 1, 2, 3, 4, 5, 6], ([kc965, kc185, kc967, kc982], kb156, [([(2, (-1)), (1, 1)], 0), ([(45, (-1)), (1, 1)], 0), ([(45, 1), (2, (-1))], (-1))], [kR 0, kR 3, kI 43, kI 44, kI 48, kI 49, kIc 9], 25), ([], 15))
def xq_582_15 : xCu := (29, [0, 1, 2, 3, 4, 5, 6], ([kc965, kc185, kc967, kc983], kb157, [([(2, (-1)), (1, 1)], 0), ([(45, (-1)), (1, 1)], 0), ([(45, 1), (2, (-1))], (-1))], [kR 0, kR 3, kI 43, kI 44, kI 48, kI 49, kIc 8], 25), ([], 16))
def xq_582_16 : xCu := (29, [0, 1, 2, 3, 4, 5, 6], ([kc965, kc185, kc967, kc984], kb158, [([(2, (-1)), (1, 1)], 0), ([(45, (-1)), (1, 1)], 0), ([(45, 1), (2, (-1))], (-1))], [kR 0, kR 3, kI 43, kI 44, kI 48, kI 49, kIc 7], 25), ([], 17))
def xq_582_17 : xCu := (29, [0, 1, 2, 3, 4, 5, 6], ([kc965, kc185, kc967, kc985], kb159, [([(2, (-1)), (1, 1)], 0), ([(45, (-1)), (1, 1)], 0), ([(45, 1), (2, (-1))], (-1))], [kR 0, kR 3, kI 43, kI 44, kI 48, kI 49, kIc 6], 25), ([], 18))
def xq_582_18 : xCu := (29, [0, 1, 2, 3, 4, 5, 6], ([kc965, kc185, kc967, kc986], kb160, [([(2, (-1)), (1, 1)], 0), ([(45, (-1)), (1, 1)], 0), ([(45, 1), (2, (-1))], (-1))], [kR 0, kR 3, kI 43, kI 44, kI 48, kI 49, kIc 5], 25), ([], 19))
def xq_582_19 : xCu := (29, [0, 1, 2, 3, 4, 5, 6], ([kc965, kc185, kc967, kc987], kb161, [([(2, (-1)), (1, 1)], 0), ([(45, (-1)), (1, 1)], 0), ([(45, 1), (2, (-1))], (-1))], [kR 0, kR 3, kI 43, kI 44, kI 48, kI 49, kIc 4], 25), ([], 20))
def xq_582_20 : xCu := (29, [0, 1, 2, 3, 4, 5, 6], ([kc965, kc185, kc967, kc988], kb162, [([(2, (-1)), (1, 1)], 0), ([(45, (-1)), (1, 1)], 0), ([(45, 1), (2, (-1))], (-1))], [kR 0, kR 3, kI 43, kI 44, kI 48, kI 49, kIc 3], 25), ([], 21))
def xq_582_21 : xCu := (29, [0, 1, 2, 3, 4, 5, 6], ([kc965, kc185, kc967, kc989], kb163, [([(2, (-1)), (1, 1)], 0), ([(45, (-1)), (1, 1)], 0), ([(45, 1), (2, (-1))], (-1))], [kR 0, kR 3, kI 43, kI 44, kI 48, kI 49, kIc 2], 25), ([], 22))
def xq_582_22 : xCu := (29, [0, 1, 2, 3, 4, 5, 6], ([kc965, kc185, kc967, kc990], kb164, [([(2, (-1)), (1, 1)], 0), ([(45, (-1)), (1, 1)], 0), ([(45, 1), (2, (-1))], (-1))], [kR 0, kR 3, kI 43, kI 44, kI 48, kI 49, kIc 1], 25), ([], 23))
def xq_582_23 : xCu := (29, [0, 1, 2, 3, 4, 5, 6], ([kc965, kc185, kc967, kc962], kb165, [([(2, (-1)), (1, 1)], 0), ([(45, (-1)), (1, 1)], 0), ([(45, 1), (2, (-1))], (-1))], [kR 0, kR 3, kI 43, kI 44, kIc 0, kI 48, kIc 0], 25), ([], 24))
def xq_582_24 : xCu := (29, [0, 1, 2, 3, 4, 5, 6], ([kc963, kc185, kc967, kc968], kb166, [([(2, (-1)), (1, 1)], 0), ([(45, (-1)), (1, 1)], 0), ([(45, 1), (2, (-1))], 0)], [kR 0, kR 3, kI 43, kI 44, kI 50, kI 51, kIc 23], 25), ([], 1))
def xq_582_25 : xCu := (29, [0, 1, 2, 3, 4, 5, 6], ([kc963, kc185, kc967, kc969], kb167, [([(2, (-1)), (1, 1)], 0), ([(45, (-1)), (1, 1)], 0), ([(45, 1), (2, (-1))], 0)], [kR 0, kR 3, kI 43, kI 44, kI 50, kI 51, kIc 22], 25), ([], 2))
def xq_582_26 : xCu := (29, [0, 1, 2, 3, 4, 5, 6], ([kc963, kc185, kc967, kc970], kb168, [([(2, (-1)), (1, 1)], 0), ([(45, (-1)), (1, 1)], 0), ([(45, 1), (2, (-1))], 0)], [kR 0, kR 3, kI 43, kI 44, kI 50, kI 51, kIc 21], 25), ([], 3))
def xq_582_27 : xCu := (29, [0, 1, 2, 3, 4, 5, 6], ([kc963, kc185, kc967, kc971], kb169, [([(2, (-1)), (1, 1)], 0), ([(45, (-1)), (1, 1)], 0), ([(45, 1), (2, (-1))], 0)], [kR 0, kR 3, kI 43, kI 44, kI 50, kI 51, kIc 20], 25), ([], 4))
def xq_582_28 : xCu := (29, [0, 1, 2, 3, 4, 5, 6], ([kc963, kc185, kc967, kc972], kb170, [([(2, (-1)), (1, 1)], 0), ([(45, (-1)), (1, 1)], 0), ([(45, 1), (2, (-1))], 0)], [kR 0, kR 3, kI 43, kI 44, kI 50, kI 51, kIc 19], 25), ([], 5))
def xq_582_29 : xCu := (29, [0, 1, 2, 3, 4, 5, 6], ([kc963, kc185, kc967, kc973], kb171, [([(2, (-1)), (1, 1)], 0), ([(45, (-1)), (1, 1)], 0), ([(45, 1), (2, (-1))], 0)], [kR 0, kR 3, kI 43, kI 44, kI 50, kI 51, kIc 18], 25), ([], 6))
def xq_582_30 : xCu := (29, [0, 1, 2, 3, 4, 5, 6], ([kc963, kc185, kc967, kc974], kb172, [([(2, (-1)), (1, 1)], 0), ([(45, (-1)), (1, 1)], 0), ([(45, 1), (2, (-1))], 0)], [kR 0, kR 3, kI 43, kI 44, kI 50, kI 51, kIc 17], 25), ([], 7))
def xq_582_31 : xCu := (29, [0, 1, 2, 3, 4, 5, 6], ([kc963, kc185, kc967, kc975], kb173, [([(2, (-1)), (1, 1)], 0), ([(45, (-1)), (1, 1)], 0), ([(45, 1), (2, (-1))], 0)], [kR 0, kR 3, kI 43, kI 44, kI 50, kI 51, kIc 16], 25), ([], 8))
def xq_582_32 : xCu := (29, [0, 1, 2, 3, 4, 5, 6], ([kc963, kc185, kc967, kc976], kb174, [([(2, (-1)), (1, 1)], 0), ([(45, (-1)), (1, 1)], 0), ([(45, 1), (2, (-1))], 0)], [kR 0, kR 3, kI 43, kI 44, kI 50, kI 51, kIc 15], 25), ([], 9))
def xq_582_33 : xCu := (29, [0, 1, 2, 3, 4, 5, 6], ([kc963, kc185, kc967, kc977], kb175, [([(2, (-1)), (1, 1)], 0), ([(45, (-1)), (1, 1)], 0), ([(45, 1), (2, (-1))], 0)], [kR 0, kR 3, kI 43, kI 44, kI 50, kI 51, kIc 14], 25), ([], 10))
def xq_582_34 : xCu := (29, [0, 1, 2, 3, 4, 5, 6], ([kc963, kc185, kc967, kc978], kb176, [([(2, (-1)), (1, 1)], 0), ([(45, (-1)), (1, 1)], 0), ([(45, 1), (2, (-1))], 0)], [kR 0, kR 3, kI 43, kI 44, kI 50, kI 51, kIc 13], 25), ([], 11))
def xq_582_35 : xCu := (29, [0, 1, 2, 3, 4, 5, 6], ([kc963, kc185, kc967, kc979], kb177, [([(2, (-1)), (1, 1)], 0), ([(45, (-1)), (1, 1)], 0), ([(45, 1), (2, (-1))], 0)], [kR 0, kR 3, kI 43, kI 44, kI 50, kI 51, kIc 12], 25), ([], 12))
def xq_582_36 : xCu := (29, [0, 1, 2, 3, 4, 5, 6], ([kc963, kc185, kc967, kc980], kb178, [([(2, (-1)), (1, 1)], 0), ([(45, (-1)), (1, 1)], 0), ([(45, 1), (2, (-1))], 0)], [kR 0, kR 3, kI 43, kI 44, kI 50, kI 51, kIc 11], 25), ([], 13))
def xq_582_37 : xCu := (29, [0, 1, 2, 3, 4, 5, 6], ([kc963, kc185, kc967, kc981], kb179, [([(2, (-1)), (1, 1)], 0), ([(45, (-1)), (1, 1)], 0), ([(45, 1), (2, (-1))], 0)], [kR 0, kR 3, kI 43, kI 44, kI 50, kI 51, kIc 10], 25), ([], 14))
def xq_582_38 : xCu := (29, [0, 1, 2, 3, 4, 5, 6], ([kc963, kc185, kc967, kc982], kb180, [([(2, (-1)), (1, 1)], 0), ([(45, (-1)), (1, 1)], 0), ([(45, 1), (2, (-1))], 0)], [kR 0, kR 3, kI 43, kI 44, kI 50, kI 51, kIc 9], 25), ([], 15))
def xq_582_39 : xCu := (29, [0, 1, 2, 3, 4, 5, 6], ([kc963, kc185, kc967, kc983], kb181, [([(2, (-1)), (1, 1)], 0), ([(45, (-1)), (1, 1)], 0), ([(45, 1), (2, (-1))], 0)], [kR 0, kR 3, kI 43, kI 44, kI 50, kI 51, kIc 8], 25), ([], 16))
def xq_582_40 : xCu := (29, [0, 1, 2, 3, 4, 5, 6], ([kc963, kc185, kc967, kc984], kb182, [([(2, (-1)), (1, 1)], 0), ([(45, (-1)), (1, 1)], 0), ([(45, 1), (2, (-1))], 0)], [kR 0, kR 3, kI 43, kI 44, kI 50, kI 51, kIc 7], 25), ([], 17))
def xq_582_41 : xCu := (29, [0, 1, 2, 3, 4, 5, 6], ([kc963, kc185, kc967, kc985], kb183, [([(2, (-1)), (1, 1)], 0), ([(45, (-1)), (1, 1)], 0), ([(45, 1), (2, (-1))], 0)], [kR 0, kR 3, kI 43, kI 44, kI 50, kI 51, kIc 6], 25), ([], 18))
def xq_582_42 : xCu := (29, [0, 1, 2, 3, 4, 5, 6], ([kc963, kc185, kc967, kc986], kb184, [([(2, (-1)), (1, 1)], 0), ([(45, (-1)), (1, 1)], 0), ([(45, 1), (2, (-1))], 0)], [kR 0, kR 3, kI 43, kI 44, kI 50, kI 51, kIc 5], 25), ([], 19))
def xq_582_43 : xCu := (29, [0, 1, 2, 3, 4, 5, 6], ([kc963, kc185, kc967, kc987], kb185, [([(2, (-1)), (1, 1)], 0), ([(45, (-1)), (1, 1)], 0), ([(45, 1), (2, (-1))], 0)], [kR 0, kR 3, kI 43, kI 44, kI 50, kI 51, kIc 4], 25), ([], 20))
def xq_582_44 : xCu := (29, [0, 1, 2, 3, 4, 5, 6], ([kc963, kc185, kc967, kc988], kb186, [([(2, (-1)), (1, 1)], 0), ([(45, (-1)), (1, 1)], 0), ([(45, 1), (2, (-1))], 0)], [kR 0, kR 3, kI 43, kI 44, kI 50, kI 51, kIc 3], 25), ([], 21))
def xq_582_45 : xCu := (29, [0, 1, 2, 3, 4, 5, 6], ([kc963, kc185, kc967, kc989], kb187, [([(2, (-1)), (1, 1)], 0), ([(45, (-1)), (1, 1)], 0), ([(45, 1), (2, (-1))], 0)], [kR 0, kR 3, kI 43, kI 44, kI 50, kI 51, kIc 2], 25), ([], 22))
def xq_582_46 : xCu := (29, [0, 1, 2, 3, 4, 5, 6], ([kc963, kc185, kc967, kc990], kb188, [([(2, (-1)), (1, 1)], 0), ([(45, (-1)), (1, 1)], 0), ([(45, 1), (2, (-1))], 0)], [kR 0, kR 3, kI 43, kI 44, kI 50, kI 51, kIc 1], 25), ([], 23))
def xq_582_47 : xCu := (29, [0, 1, 2, 3, 4, 5, 6], ([kc963, kc185, kc967, kc962], kb189, [([(2, (-1)), (1, 1)], 0), ([(45, (-1)), (1, 1)], 0), ([(45, 1), (2, (-1))], 0)], [kR 0, kR 3, kI 43, kI 44, kIc 0, kI 50, kIc 0], 25), ([], 24))
def xq_582_48 : xCu := (29, [0, 1, 2, 3, 4, 5, 6], ([kc960, kc185, kc967, kc962], kb138, [([(2, (-1)), (1, 1)], 0), ([(45, (-1)), (1, 1)], 0), ([(45, 1), (2, (-1))], 0)], [kR 0, kR 3, kI 43, kI 44, kIc 23, kIc 23, kIc 23], 25), ([], 1))
def xq_582_49 : xCu := (29, [0, 1, 2, 3, 4, 5, 6], ([kc960, kc185, kc967, kc962], kb138, [([(2, (-1)), (1, 1)], 0), ([(45, (-1)), (1, 1)], 0), ([(45, 1), (2, (-1))], 0)], [kR 0, kR 3, kI 43, kI 44, kIc 22, kIc 22, kIc 22], 25), ([], 2))
def xq_582_50 : xCu := (29, [0, 1, 2, 3, 4, 5, 6], ([kc960, kc185, kc967, kc962], kb138, [([(2, (-1)), (1, 1)], 0), ([(45, (-1)), (1, 1)], 0), ([(45, 1), (2, (-1))], 0)], [kR 0, kR 3, kI 43, kI 44, kIc 21, kIc 21, kIc 21], 25), ([], 3))
def xq_582_51 : xCu := (29, [0, 1, 2, 3, 4, 5, 6], ([kc960, kc185, kc967, kc962], kb138, [([(2, (-1)), (1, 1)], 0), ([(45, (-1)), (1, 1)], 0), ([(45, 1), (2, (-1))], 0)], [kR 0, kR 3, kI 43, kI 44, kIc 20, kIc 20, kIc 20], 25), ([], 4))
def xq_582_52 : xCu := (29, [0, 1, 2, 3, 4, 5, 6], ([kc960, kc185, kc967, kc962], kb138, [([(2, (-1)), (1, 1)], 0), ([(45, (-1)), (1, 1)], 0), ([(45, 1), (2, (-1))], 0)], [kR 0, kR 3, kI 43, kI 44, kIc 19, kIc 19, kIc 19], 25), ([], 5))
def xq_582_53 : xCu := (29, [0, 1, 2, 3, 4, 5, 6], ([kc960, kc185, kc967, kc962], kb138, [([(2, (-1)), (1, 1)], 0), ([(45, (-1)), (1, 1)], 0), ([(45, 1), (2, (-1))], 0)], [kR 0, kR 3, kI 43, kI 44, kIc 18, kIc 18, kIc 18], 25), ([], 6))
def xq_582_54 : xCu := (29, [0, 1, 2, 3, 4, 5, 6], ([kc960, kc185, kc967, kc962], kb138, [([(2, (-1)), (1, 1)], 0), ([(45, (-1)), (1, 1)], 0), ([(45, 1), (2, (-1))], 0)], [kR 0, kR 3, kI 43, kI 44, kIc 17, kIc 17, kIc 17], 25), ([], 7))
def xq_582_55 : xCu := (29, [0, 1, 2, 3, 4, 5, 6], ([kc960, kc185, kc967, kc962], kb138, [([(2, (-1)), (1, 1)], 0), ([(45, (-1)), (1, 1)], 0), ([(45, 1), (2, (-1))], 0)], [kR 0, kR 3, kI 43, kI 44, kIc 16, kIc 16, kIc 16], 25), ([], 8))
def xq_582_56 : xCu := (29, [0, 1, 2, 3, 4, 5, 6], ([kc960, kc185, kc967, kc962], kb138, [([(2, (-1)), (1, 1)], 0), ([(45, (-1)), (1, 1)], 0), ([(45, 1), (2, (-1))], 0)], [kR 0, kR 3, kI 43, kI 44, kIc 15, kIc 15, kIc 15], 25), ([], 9))
def xq_582_57 : xCu := (29, [0, 1, 2, 3, 4, 5, 6], ([kc960, kc185, kc967, kc962], kb138, [([(2, (-1)), (1, 1)], 0), ([(45, (-1)), (1, 1)], 0), ([(45, 1), (2, (-1))], 0)], [kR 0, kR 3, kI 43, kI 44, kIc 14, kIc 14, kIc 14], 25), ([], 10))
def xq_582_58 : xCu := (29, [0, 1, 2, 3, 4, 5, 6], ([kc960, kc185, kc967, kc962], kb138, [([(2, (-1)), (1, 1)], 0), ([(45, (-1)), (1, 1)], 0), ([(45, 1), (2, (-1))], 0)], [kR 0, kR 3, kI 43, kI 44, kIc 13, kIc 13, kIc 13], 25), ([], 11))
def xq_582_59 : xCu := (29, [0, 1, 2, 3, 4, 5, 6], ([kc960, kc185, kc967, kc962], kb138, [([(2, (-1)), (1, 1)], 0), ([(45, (-1)), (1, 1)], 0), ([(45, 1), (2, (-1))], 0)], [kR 0, kR 3, kI 43, kI 44, kIc 12, kIc 12, kIc 12], 25), ([], 12))
def xq_582_60 : xCu := (29, [0, 1, 2, 3, 4, 5, 6], ([kc960, kc185, kc967, kc962], kb138, [([(2, (-1)), (1, 1)], 0), ([(45, (-1)), (1, 1)], 0), ([(45, 1), (2, (-1))], 0)], [kR 0, kR 3, kI 43, kI 44, kIc 11, kIc 11, kIc 11], 25), ([], 13))
def xq_582_61 : xCu := (29, [0, 1, 2, 3, 4, 5, 6], ([kc960, kc185, kc967, kc962], kb138, [([(2, (-1)), (1, 1)], 0), ([(45, (-1)), (1, 1)], 0), ([(45, 1), (2, (-1))], 0)], [kR 0, kR 3, kI 43, kI 44, kIc 10, kIc 10, kIc 10], 25), ([], 14))
def xq_582_62 : xCu := (29, [0, 1, 2, 3, 4, 5, 6], ([kc960, kc185, kc967, kc962], kb138, [([(2, (-1)), (1, 1)], 0), ([(45, (-1)), (1, 1)], 0), ([(45, 1), (2, (-1))], 0)], [kR 0, kR 3, kI 43, kI 44, kIc 9, kIc 9, kIc 9], 25), ([], 15))
def xq_582_63 : xCu := (29, [0, 1, 2, 3, 4, 5, 6], ([kc960, kc185, kc967, kc962], kb138, [([(2, (-1)), (1, 1)], 0), ([(45, (-1)), (1, 1)], 0), ([(45, 1), (2, (-1))], 0)], [kR 0, kR 3, kI 43, kI 44, kIc 8, kIc 8, kIc 8], 25), ([], 16))
def xq_582_64 : xCu := (29, [0, 1, 2, 3, 4, 5, 6], ([kc960, kc185, kc967, kc962], kb138, [([(2, (-1)), (1, 1)], 0), ([(45, (-1)), (1, 1)], 0), ([(45, 1), (2, (-1))], 0)], [kR 0, kR 3, kI 43, kI 44, kIc 7, kIc 7, kIc 7], 25), ([], 17))
def xq_582_65 : xCu := (29, [0, 1, 2, 3, 4, 5, 6], ([kc960, kc185, kc967, kc962], kb138, [([(2, (-1)), (1, 1)], 0), ([(45, (-1)), (1, 1)], 0), ([(45, 1), (2, (-1))], 0)], [kR 0, kR 3, kI 43, kI 44, kIc 6, kIc 6, kIc 6], 25), ([], 18))
def xq_582_66 : xCu := (29, [0, 1, 2, 3, 4, 5, 6], ([kc960, kc185, kc967, kc962], kb138, [([(2, (-1)), (1, 1)], 0), ([(45, (-1)), (1, 1)], 0), ([(45, 1), (2, (-1))], 0)], [kR 0, kR 3, kI 43, kI 44, kIc 5, kIc 5, kIc 5], 25), ([], 19))
def xq_582_67 : xCu := (29, [0, 1, 2, 3, 4, 5, 6], ([kc960, kc185, kc967, kc962], kb138, [([(2, (-1)), (1, 1)], 0), ([(45, (-1)), (1, 1)], 0), ([(45, 1), (2, (-1))], 0)], [kR 0, kR 3, kI 43, kI 44, kIc 4, kIc 4, kIc 4], 25), ([], 20))
def xq_582_68 : xCu := (29, [0, 1, 2, 3, 4, 5, 6], ([kc960, kc185, kc967, kc962], kb138, [([(2, (-1)), (1, 1)], 0), ([(45, (-1)), (1, 1)], 0), ([(45, 1), (2, (-1))], 0)], [kR 0, kR 3, kI 43, kI 44, kIc 3, kIc 3, kIc 3], 25), ([], 21))
def xq_582_69 : xCu := (29, [0, 1, 2, 3, 4, 5, 6], ([kc960, kc185, kc967, kc962], kb138, [([(2, (-1)), (1, 1)], 0), ([(45, (-1)), (1, 1)], 0), ([(45, 1), (2, (-1))], 0)], [kR 0, kR 3, kI 43, kI 44, kIc 2, kIc 2, kIc 2], 25), ([], 22))
def xq_582_70 : xCu := (29, [0, 1, 2, 3, 4, 5, 6], ([kc960, kc185, kc967, kc962], kb138, [([(2, (-1)), (1, 1)], 0), ([(45, (-1)), (1, 1)], 0), ([(45, 1), (2, (-1))], 0)], [kR 0, kR 3, kI 43, kI 44, kIc 1, kIc 1, kIc 1], 25), ([], 23))
def xq_582_71 : xCu := (29, [0, 1, 2, 3, 4, 5, 6], ([kc960, kc185, kc967, kc962], kb138, [([(2, (-1)), (1, 1)], 0), ([(45, (-1)), (1, 1)], 0), ([(45, 1), (2, (-1))], 0)], [kR 0, kR 3, kI 43, kI 44, kIc 0, kIc 0, kIc 0], 25), ([], 24))
def xq_582_72 : xCu := (29, [0, 1, 2, 3, 4, 5, 6], ([kc965, kc185, kc967, kc991], kb165, [([(2, (-1)), (1, 1)], 0), ([(45, (-1)), (1, 1)], 0), ([(45, 1), (2, (-1))], (-1))], [kR 0, kR 3, kI 43, kI 44, kI 48, kIc 23, kIc 24], 25), ([], 0))
def xq_582_73 : xCu := (29, [0, 1, 2, 3, 4, 5, 6], ([kc963, kc185, kc967, kc991], kb189, [([(2, (-1)), (1, 1)], 0), ([(45, (-1)), (1, 1)], 0), ([(45, 1), (2, (-1))], 0)], [kR 0, kR 3, kI 43, kI 44, kI 50, kIc 23, kIc 24], 25), ([], 0))
def xc_582 : xCt := (([kc966, kc185, kc967, kc962], kb141, [([(2, (-1)), (1, 1)], 0)], [kR 0, kR 3, kI 43, kI 44], 25), [xe_582_0, xe_582_1, xe_582_2], 5)
def xu_582 : List xCu := [xq_582_0,
  xq_582_1,
  xq_582_2,
  xq_582_3,
  xq_582_4,
  xq_582_5,
  xq_582_6,
  xq_582_7,
  xq_582_8,
  xq_582_9,
  xq_582_10,
  xq_582_11,
  xq_582_12,
  xq_582_13,
  xq_582_14,
  xq_582_15,
  xq_582_16,
  xq_582_17,
  xq_582_18,
  xq_582_19,
  xq_582_20,
  xq_582_21,
  xq_582_22,
  xq_582_23,
  xq_582_24,
  xq_582_25,
  xq_582_26,
  xq_582_27,
  xq_582_28,
  xq_582_29,
  xq_582_30,
  xq_582_31,
  xq_582_32,
  xq_582_33,
  xq_582_34,
  xq_582_35,
  xq_582_36,
  xq_582_37,
  xq_582_38,
  xq_582_39,
  xq_582_40,
  xq_582_41,
  xq_582_42,
  xq_582_43,
  xq_582_44,
  xq_582_45,
  xq_582_46,
  xq_582_47,
  xq_582_48,
  xq_582_49,
  xq_582_50,
  xq_582_51,
  xq_582_52,
  xq_582_53,
  xq_582_54,
  xq_582_55,
  xq_582_56,
  xq_582_57,
  xq_582_58,
  xq_582_59,
  xq_582_60,
  xq_582_61,
  xq_582_62,
  xq_582_63,
  xq_582_64,
  xq_582_65,
  xq_582_66,
  xq_582_67,
  xq_582_68,
  xq_582_69,
  xq_582_70,
  xq_582_71,
  xq_582_72,
  xq_582_73]
def xT_582 : List (Nat × xCt) := [(201, xc_574)]
theorem xn_582 : Nat.ble (xsum xc_582.1.2.2.2.1) xm_X10_spanLine.nl = true := by decide +kernel
theorem xv_582_0 : xStP xT_582 xHt 100000 209 xm_X10_spanLine xc_582 xu_582 [] 0 18 = true := by decide +kernel
theorem xv_582_18 : xStP xT_582 xHt 100000 209 xm_X10_spanLine xc_582 xu_582 [] 18 18 = true := by decide +kernel
theorem xv_582_36 : xStP xT_582 xHt 100000 209 xm_X10_spanLine xc_582 xu_582 [] 36 18 = true := by decide +kernel
theorem xv_582_54 : xStP xT_582 xHt 100000 209 xm_X10_spanLine xc_582 xu_582 [] 54 18 = true := by decide +kernel
theorem xv_582_72 : xStP xT_582 xHt 100000 209 xm_X10_spanLine xc_582 xu_582 [] 72 18 = true := by decide +kernel
theorem xv_582_90 : xStP xT_582 xHt 100000 209 xm_X10_spanLine xc_582 xu_582 [] 90 18 = true := by decide +kernel
theorem xv_582_108 : xStP xT_582 xHt 100000 209 xm_X10_spanLine xc_582 xu_582 [] 108 18 = true := by decide +kernel
theorem xv_582_126 : xStP xT_582 xHt 100000 209 xm_X10_spanLine xc_582 xu_582 [] 126 18 = true := by decide +kernel
theorem xv_582_144 : xStP xT_582 xHt 100000 209 xm_X10_spanLine xc_582 xu_582 [] 144 18 = true := by decide +kernel
theorem xz_582 : xStL xT_582 xHt 100000 209 xm_X10_spanLine xc_582 xu_582 162 = true := by decide +kernel
theorem xw_582_0 : ((xu_582.drop 0).take 1).all (xVerCs xT_582 xHt 100000 209 xm_X10_spanLine xc_582 xu_582 [2] [72]) = true := by decide +kernel
theorem xw_582_1 : ((xu_582.drop 1).take 1).all (xVerCs xT_582 xHt 100000 209 xm_X10_spanLine xc_582 xu_582 [2] [0]) = true := by decide +kernel
theorem xw_582_2 : ((xu_582.drop 2).take 1).all (xVerCs xT_582 xHt 100000 209 xm_X10_spanLine xc_582 xu_582 [2] [1]) = true := by decide +kernel
theorem xw_582_3 : ((xu_582.drop 3).take 1).all (xVerCs xT_582 xHt 100000 209 xm_X10_spanLine xc_582 xu_582 [2] [2]) = true := by decide +kernel
theorem xw_582_4 : ((xu_582.drop 4).take 1).all (xVerCs xT_582 xHt 100000 209 xm_X10_spanLine xc_582 xu_582 [2] [3]) = true := by decide +kernel
theorem xw_582_5 : ((xu_582.drop 5).take 1).all (xVerCs xT_582 xHt 100000 209 xm_X10_spanLine xc_582 xu_582 [2] [4]) = true := by decide +kernel
theorem xw_582_6 : ((xu_582.drop 6).take 1).all (xVerCs xT_582 xHt 100000 209 xm_X10_spanLine xc_582 xu_582 [2] [5]) = true := by decide +kernel
theorem xw_582_7 : ((xu_582.drop 7).take 1).all (xVerCs xT_582 xHt 100000 209 xm_X10_spanLine xc_582 xu_582 [2] [6]) = true := by decide +kernel
theorem xw_582_8 : ((xu_582.drop 8).take 1).all (xVerCs xT_582 xHt 100000 209 xm_X10_spanLine xc_582 xu_582 [2] [7]) = true := by decide +kernel
theorem xw_582_9 : ((xu_582.drop 9).take 1).all (xVerCs xT_582 xHt 100000 209 xm_X10_spanLine xc_582 xu_582 [2] [8]) = true := by decide +kernel
theorem xw_582_10 : ((xu_582.drop 10).take 1).all (xVerCs xT_582 xHt 100000 209 xm_X10_spanLine xc_582 xu_582 [2] [9]) = true := by decide +kernel
theorem xw_582_11 : ((xu_582.drop 11).take 1).all (xVerCs xT_582 xHt 100000 209 xm_X10_spanLine xc_582 xu_582 [2] [10]) = true := by decide +kernel
theorem xw_582_12 : ((xu_582.drop 12).take 1).all (xVerCs xT_582 xHt 100000 209 xm_X10_spanLine xc_582 xu_582 [2] [11]) = true := by decide +kernel
theorem xw_582_13 : ((xu_582.drop 13).take 1).all (xVerCs xT_582 xHt 100000 209 xm_X10_spanLine xc_582 xu_582 [2] [12]) = true := by decide +kernel
theorem xw_582_14 : ((xu_582.drop 14).take 1).all (xVerCs xT_582 xHt 100000 209 xm_X10_spanLine xc_582 xu_582 [2] [13]) = true := by decide +kernel
theorem xw_582_15 : ((xu_582.drop 15).take 1).all (xVerCs xT_582 xHt 100000 209 xm_X10_spanLine xc_582 xu_582 [2] [14]) = true := by decide +kernel
theorem xw_582_16 : ((xu_582.drop 16).take 1).all (xVerCs xT_582 xHt 100000 209 xm_X10_spanLine xc_582 xu_582 [2] [15]) = true := by decide +kernel
theorem xw_582_17 : ((xu_582.drop 17).take 1).all (xVerCs xT_582 xHt 100000 209 xm_X10_spanLine xc_582 xu_582 [2] [16]) = true := by decide +kernel
theorem xw_582_18 : ((xu_582.drop 18).take 1).all (xVerCs xT_582 xHt 100000 209 xm_X10_spanLine xc_582 xu_582 [2] [17]) = true := by decide +kernel
theorem xw_582_19 : ((xu_582.drop 19).take 1).all (xVerCs xT_582 xHt 100000 209 xm_X10_spanLine xc_582 xu_582 [2] [18]) = true := by decide +kernel
theorem xw_582_20 : ((xu_582.drop 20).take 1).all (xVerCs xT_582 xHt 100000 209 xm_X10_spanLine xc_582 xu_582 [2] [19]) = true := by decide +kernel
theorem xw_582_21 : ((xu_582.drop 21).take 1).all (xVerCs xT_582 xHt 100000 209 xm_X10_spanLine xc_582 xu_582 [2] [20]) = true := by decide +kernel
theorem xw_582_22 : ((xu_582.drop 22).take 1).all (xVerCs xT_582 xHt 100000 209 xm_X10_spanLine xc_582 xu_582 [2] [21]) = true := by decide +kernel
theorem xw_582_23 : ((xu_582.drop 23).take 1).all (xVerCs xT_582 xHt 100000 209 xm_X10_spanLine xc_582 xu_582 [] [22]) = true := by decide +kernel
theorem xw_582_24 : ((xu_582.drop 24).take 1).all (xVerCs xT_582 xHt 100000 209 xm_X10_spanLine xc_582 xu_582 [1] [73]) = true := by decide +kernel
theorem xw_582_25 : ((xu_582.drop 25).take 1).all (xVerCs xT_582 xHt 100000 209 xm_X10_spanLine xc_582 xu_582 [1] [24]) = true := by decide +kernel
theorem xw_582_26 : ((xu_582.drop 26).take 1).all (xVerCs xT_582 xHt 100000 209 xm_X10_spanLine xc_582 xu_582 [1] [25]) = true := by decide +kernel
theorem xw_582_27 : ((xu_582.drop 27).take 1).all (xVerCs xT_582 xHt 100000 209 xm_X10_spanLine xc_582 xu_582 [1] [26]) = true := by decide +kernel
theorem xw_582_28 : ((xu_582.drop 28).take 1).all (xVerCs xT_582 xHt 100000 209 xm_X10_spanLine xc_582 xu_582 [1] [27]) = true := by decide +kernel
theorem xw_582_29 : ((xu_582.drop 29).take 1).all (xVerCs xT_582 xHt 100000 209 xm_X10_spanLine xc_582 xu_582 [1] [28]) = true := by decide +kernel
theorem xw_582_30 : ((xu_582.drop 30).take 1).all (xVerCs xT_582 xHt 100000 209 xm_X10_spanLine xc_582 xu_582 [1] [29]) = true := by decide +kernel
theorem xw_582_31 : ((xu_582.drop 31).take 1).all (xVerCs xT_582 xHt 100000 209 xm_X10_spanLine xc_582 xu_582 [1] [30]) = true := by decide +kernel
theorem xw_582_32 : ((xu_582.drop 32).take 1).all (xVerCs xT_582 xHt 100000 209 xm_X10_spanLine xc_582 xu_582 [1] [31]) = true := by decide +kernel
theorem xw_582_33 : ((xu_582.drop 33).take 1).all (xVerCs xT_582 xHt 100000 209 xm_X10_spanLine xc_582 xu_582 [1] [32]) = true := by decide +kernel
theorem xw_582_34 : ((xu_582.drop 34).take 1).all (xVerCs xT_582 xHt 100000 209 xm_X10_spanLine xc_582 xu_582 [1] [33]) = true := by decide +kernel
theorem xw_582_35 : ((xu_582.drop 35).take 1).all (xVerCs xT_582 xHt 100000 209 xm_X10_spanLine xc_582 xu_582 [1] [34]) = true := by decide +kernel
theorem xw_582_36 : ((xu_582.drop 36).take 1).all (xVerCs xT_582 xHt 100000 209 xm_X10_spanLine xc_582 xu_582 [1] [35]) = true := by decide +kernel
theorem xw_582_37 : ((xu_582.drop 37).take 1).all (xVerCs xT_582 xHt 100000 209 xm_X10_spanLine xc_582 xu_582 [1] [36]) = true := by decide +kernel
theorem xw_582_38 : ((xu_582.drop 38).take 1).all (xVerCs xT_582 xHt 100000 209 xm_X10_spanLine xc_582 xu_582 [1] [37]) = true := by decide +kernel
theorem xw_582_39 : ((xu_582.drop 39).take 1).all (xVerCs xT_582 xHt 100000 209 xm_X10_spanLine xc_582 xu_582 [1] [38]) = true := by decide +kernel
theorem xw_582_40 : ((xu_582.drop 40).take 1).all (xVerCs xT_582 xHt 100000 209 xm_X10_spanLine xc_582 xu_582 [1] [39]) = true := by decide +kernel
theorem xw_582_41 : ((xu_582.drop 41).take 1).all (xVerCs xT_582 xHt 100000 209 xm_X10_spanLine xc_582 xu_582 [1] [40]) = true := by decide +kernel
theorem xw_582_42 : ((xu_582.drop 42).take 1).all (xVerCs xT_582 xHt 100000 209 xm_X10_spanLine xc_582 xu_582 [1] [41]) = true := by decide +kernel
theorem xw_582_43 : ((xu_582.drop 43).take 1).all (xVerCs xT_582 xHt 100000 209 xm_X10_spanLine xc_582 xu_582 [1] [42]) = true := by decide +kernel
theorem xw_582_44 : ((xu_582.drop 44).take 1).all (xVerCs xT_582 xHt 100000 209 xm_X10_spanLine xc_582 xu_582 [1] [43]) = true := by decide +kernel
theorem xw_582_45 : ((xu_582.drop 45).take 1).all (xVerCs xT_582 xHt 100000 209 xm_X10_spanLine xc_582 xu_582 [1] [44]) = true := by decide +kernel
theorem xw_582_46 : ((xu_582.drop 46).take 1).all (xVerCs xT_582 xHt 100000 209 xm_X10_spanLine xc_582 xu_582 [1] [45]) = true := by decide +kernel
theorem xw_582_47 : ((xu_582.drop 47).take 1).all (xVerCs xT_582 xHt 100000 209 xm_X10_spanLine xc_582 xu_582 [] [46]) = true := by decide +kernel
theorem xw_582_48 : ((xu_582.drop 48).take 1).all (xVerCs xT_582 xHt 100000 209 xm_X10_spanLine xc_582 xu_582 [0] []) = true := by decide +kernel
theorem xw_582_49 : ((xu_582.drop 49).take 1).all (xVerCs xT_582 xHt 100000 209 xm_X10_spanLine xc_582 xu_582 [0] []) = true := by decide +kernel
theorem xw_582_50 : ((xu_582.drop 50).take 1).all (xVerCs xT_582 xHt 100000 209 xm_X10_spanLine xc_582 xu_582 [0] []) = true := by decide +kernel
theorem xw_582_51 : ((xu_582.drop 51).take 1).all (xVerCs xT_582 xHt 100000 209 xm_X10_spanLine xc_582 xu_582 [0] []) = true := by decide +kernel
theorem xw_582_52 : ((xu_582.drop 52).take 1).all (xVerCs xT_582 xHt 100000 209 xm_X10_spanLine xc_582 xu_582 [0] []) = true := by decide +kernel
theorem xw_582_53 : ((xu_582.drop 53).take 1).all (xVerCs xT_582 xHt 100000 209 xm_X10_spanLine xc_582 xu_582 [0] []) = true := by decide +kernel
theorem xw_582_54 : ((xu_582.drop 54).take 1).all (xVerCs xT_582 xHt 100000 209 xm_X10_spanLine xc_582 xu_582 [0] []) = true := by decide +kernel
theorem xw_582_55 : ((xu_582.drop 55).take 1).all (xVerCs xT_582 xHt 100000 209 xm_X10_spanLine xc_582 xu_582 [0] []) = true := by decide +kernel
theorem xw_582_56 : ((xu_582.drop 56).take 1).all (xVerCs xT_582 xHt 100000 209 xm_X10_spanLine xc_582 xu_582 [0] []) = true := by decide +kernel
theorem xw_582_57 : ((xu_582.drop 57).take 1).all (xVerCs xT_582 xHt 100000 209 xm_X10_spanLine xc_582 xu_582 [0] []) = true := by decide +kernel
theorem xw_582_58 : ((xu_582.drop 58).take 1).all (xVerCs xT_582 xHt 100000 209 xm_X10_spanLine xc_582 xu_582 [0] []) = true := by decide +kernel
theorem xw_582_59 : ((xu_582.drop 59).take 1).all (xVerCs xT_582 xHt 100000 209 xm_X10_spanLine xc_582 xu_582 [0] []) = true := by decide +kernel
theorem xw_582_60 : ((xu_582.drop 60).take 1).all (xVerCs xT_582 xHt 100000 209 xm_X10_spanLine xc_582 xu_582 [0] []) = true := by decide +kernel
theorem xw_582_61 : ((xu_582.drop 61).take 1).all (xVerCs xT_582 xHt 100000 209 xm_X10_spanLine xc_582 xu_582 [0] []) = true := by decide +kernel
theorem xw_582_62 : ((xu_582.drop 62).take 1).all (xVerCs xT_582 xHt 100000 209 xm_X10_spanLine xc_582 xu_582 [0] []) = true := by decide +kernel
theorem xw_582_63 : ((xu_582.drop 63).take 1).all (xVerCs xT_582 xHt 100000 209 xm_X10_spanLine xc_582 xu_582 [0] []) = true := by decide +kernel
theorem xw_582_64 : ((xu_582.drop 64).take 1).all (xVerCs xT_582 xHt 100000 209 xm_X10_spanLine xc_582 xu_582 [0] []) = true := by decide +kernel
theorem xw_582_65 : ((xu_582.drop 65).take 1).all (xVerCs xT_582 xHt 100000 209 xm_X10_spanLine xc_582 xu_582 [0] []) = true := by decide +kernel
theorem xw_582_66 : ((xu_582.drop 66).take 1).all (xVerCs xT_582 xHt 100000 209 xm_X10_spanLine xc_582 xu_582 [0] []) = true := by decide +kernel
theorem xw_582_67 : ((xu_582.drop 67).take 1).all (xVerCs xT_582 xHt 100000 209 xm_X10_spanLine xc_582 xu_582 [0] []) = true := by decide +kernel
theorem xw_582_68 : ((xu_582.drop 68).take 1).all (xVerCs xT_582 xHt 100000 209 xm_X10_spanLine xc_582 xu_582 [0] []) = true := by decide +kernel
theorem xw_582_69 : ((xu_582.drop 69).take 1).all (xVerCs xT_582 xHt 100000 209 xm_X10_spanLine xc_582 xu_582 [0] []) = true := by decide +kernel
theorem xw_582_70 : ((xu_582.drop 70).take 1).all (xVerCs xT_582 xHt 100000 209 xm_X10_spanLine xc_582 xu_582 [0] []) = true := by decide +kernel
theorem xw_582_71 : ((xu_582.drop 71).take 1).all (xVerCs xT_582 xHt 100000 209 xm_X10_spanLine xc_582 xu_582 [0] []) = true := by decide +kernel
theorem xw_582_72 : ((xu_582.drop 72).take 1).all (xVerCs xT_582 xHt 100000 209 xm_X10_spanLine xc_582 xu_582 [2] []) = true := by decide +kernel
theorem xw_582_73 : ((xu_582.drop 73).take 1).all (xVerCs xT_582 xHt 100000 209 xm_X10_spanLine xc_582 xu_582 [1] []) = true := by decide +kernel
theorem xok_582 (l : Launch) : xCk l 209 xc_582 := ⟨xm_X10_spanLine, rfl, xVer_ok xk_all (xHt_ok l) (T := xT_582) (xTc (xok_574 l) (xTn l)) rfl (f := 100000) (cuts := xu_582) (xStE (es := []) xn_582 (xStS xv_582_0 (xStS xv_582_18 (xStS xv_582_36 (xStS xv_582_54 (xStS xv_582_72 (xStS xv_582_90 (xStS xv_582_108 (xStS xv_582_126 (xStS xv_582_144 (xStZ xz_582))))))))))) (xAll0 (xAllS 0 1 (xAllCs xw_582_0) (xAllS 1 1 (xAllCs xw_582_1) (xAllS 2 1 (xAllCs xw_582_2) (xAllS 3 1 (xAllCs xw_582_3) (xAllS 4 1 (xAllCs xw_582_4) (xAllS 5 1 (xAllCs xw_582_5) (xAllS 6 1 (xAllCs xw_582_6) (xAllS 7 1 (xAllCs xw_582_7) (xAllS 8 1 (xAllCs xw_582_8) (xAllS 9 1 (xAllCs xw_582_9) (xAllS 10 1 (xAllCs xw_582_10) (xAllS 11 1 (xAllCs xw_582_11) (xAllS 12 1 (xAllCs xw_582_12) (xAllS 13 1 (xAllCs xw_582_13) (xAllS 14 1 (xAllCs xw_582_14) (xAllS 15 1 (xAllCs xw_582_15) (xAllS 16 1 (xAllCs xw_582_16) (xAllS 17 1 (xAllCs xw_582_17) (xAllS 18 1 (xAllCs xw_582_18) (xAllS 19 1 (xAllCs xw_582_19) (xAllS 20 1 (xAllCs xw_582_20) (xAllS 21 1 (xAllCs xw_582_21) (xAllS 22 1 (xAllCs xw_582_22) (xAllS 23 1 (xAllCs xw_582_23) (xAllS 24 1 (xAllCs xw_582_24) (xAllS 25 1 (xAllCs xw_582_25) (xAllS 26 1 (xAllCs xw_582_26) (xAllS 27 1 (xAllCs xw_582_27) (xAllS 28 1 (xAllCs xw_582_28) (xAllS 29 1 (xAllCs xw_582_29) (xAllS 30 1 (xAllCs xw_582_30) (xAllS 31 1 (xAllCs xw_582_31) (xAllS 32 1 (xAllCs xw_582_32) (xAllS 33 1 (xAllCs xw_582_33) (xAllS 34 1 (xAllCs xw_582_34) (xAllS 35 1 (xAllCs xw_582_35) (xAllS 36 1 (xAllCs xw_582_36) (xAllS 37 1 (xAllCs xw_582_37) (xAllS 38 1 (xAllCs xw_582_38) (xAllS 39 1 (xAllCs xw_582_39) (xAllS 40 1 (xAllCs xw_582_40) (xAllS 41 1 (xAllCs xw_582_41) (xAllS 42 1 (xAllCs xw_582_42) (xAllS 43 1 (xAllCs xw_582_43) (xAllS 44 1 (xAllCs xw_582_44) (xAllS 45 1 (xAllCs xw_582_45) (xAllS 46 1 (xAllCs xw_582_46) (xAllS 47 1 (xAllCs xw_582_47) (xAllS 48 1 (xAllCs xw_582_48) (xAllS 49 1 (xAllCs xw_582_49) (xAllS 50 1 (xAllCs xw_582_50) (xAllS 51 1 (xAllCs xw_582_51) (xAllS 52 1 (xAllCs xw_582_52) (xAllS 53 1 (xAllCs xw_582_53) (xAllS 54 1 (xAllCs xw_582_54) (xAllS 55 1 (xAllCs xw_582_55) (xAllS 56 1 (xAllCs xw_582_56) (xAllS 57 1 (xAllCs xw_582_57) (xAllS 58 1 (xAllCs xw_582_58) (xAllS 59 1 (xAllCs xw_582_59) (xAllS 60 1 (xAllCs xw_582_60) (xAllS 61 1 (xAllCs xw_582_61) (xAllS 62 1 (xAllCs xw_582_62) (xAllS 63 1 (xAllCs xw_582_63) (xAllS 64 1 (xAllCs xw_582_64) (xAllS 65 1 (xAllCs xw_582_65) (xAllS 66 1 (xAllCs xw_582_66) (xAllS 67 1 (xAllCs xw_582_67) (xAllS 68 1 (xAllCs xw_582_68) (xAllS 69 1 (xAllCs xw_582_69) (xAllS 70 1 (xAllCs xw_582_70) (xAllS 71 1 (xAllCs xw_582_71) (xAllS 72 1 (xAllCs xw_582_72) (xAllS 73 1 (xAllCs xw_582_73) (xAllZ (by decide +kernel)))))))))))))))))))))))))))))))))))))))))))))))))))))))))))))))))))))))))))))⟩
