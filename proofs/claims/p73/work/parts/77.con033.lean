/-! Contracts, printed by a program: part 33. -/
def kc990 : xC := kAr 0 55 [(1, kS 29), (5, kB3), (1, kS 30), (1, kS 31), (3, kB3), (1, kS 32), (5, kB3), (1, kS 33), (1, kS 34), (3, kB3), (1, kS 35), (5, kB3), (1, kS 36), (1, kS 37), (3, kB3), (1, kS 38), (5, kB3), (1, kS 39), (1, kS 40), (3, kB3), (1, kS 41), (5, kB3), (1, kS 42), (1, kS 43), (1, kS 44), (1, kSc 2), (1, kB3)]
def kc991 : xC := kAr 0 120 [(96, kB 0 9), (24, kB 0 6)]
def xe_580_0 : xPt := ([kc954, kc218, kc990, kc958], kb86, [([(45, (-1)), (3, 1)], 0), ([(45, 1), (4, (-1))], 0)], [], 25)
def xe_580_1 : xPt := ([kc957, kc218, kc990, kc991], kb87, [([(45, (-1)), (3, 1)], 0), ([(45, 1), (4, (-1))], 0)], [], 25)
def xe_580_2 : xPt := ([kc959, kc218, kc990, kc991], kb88, [([(45, (-1)), (3, 1)], 0), ([(45, 1), (4, (-1))], (-1))], [], 25)
def kc992 : xC := kAr 0 120 [(96, kB 0 9), (23, kB 0 6), (1, kB 0 3)]
def kc993 : xC := kAr 0 120 [(96, kB 0 9), (22, kB 0 6), (2, kB 0 3)]
def kc994 : xC := kAr 0 120 [(96, kB 0 9), (21, kB 0 6), (3, kB 0 3)]
def kc995 : xC := kAr 0 120 [(96, kB 0 9), (20, kB 0 6), (4, kB 0 3)]
def kc996 : xC := kAr 0 120 [(96, kB 0 9), (19, kB 0 6), (5, kB 0 3)]
def kc997 : xC := kAr 0 120 [(96, kB 0 9), (18, kB 0 6), (6, kB 0 3)]
def kc998 : xC := kAr 0 120 [(96, kB 0 9), (17, kB 0 6), (7, kB 0 3)]
def kc999 : xC := kAr 0 120 [(96, kB 0 9), (16, kB 0 6), (8, kB 0 3)]
def kc1000 : xC := kAr 0 120 [(96, kB 0 9), (15, kB 0 6), (9, kB 0 3)]
def kc1001 : xC := kAr 0 120 [(96, kB 0 9), (14, kB 0 6), (10, kB 0 3)]
def kc1002 : xC := kAr 0 120 [(96, kB 0 9), (13, kB 0 6), (11, kB 0 3)]
def kc1003 : xC := kAr 0 120 [(96, kB 0 9), (12, kB 0 6), (12, kB 0 3)]
def kc1004 : xC := kAr 0 120 [(96, kB 0 9), (11, kB 0 6), (13, kB 0 3)]
def kc1005 : xC := kAr 0 120 [(96, kB 0 9), (10, kB 0 6), (14, kB 0 3)]
def kc1006 : xC := kAr 0 120 [(96, kB 0 9), (9, kB 0 6), (15, kB 0 3)]
def kc1007 : xC := kAr 0 120 [(96, kB 0 9), (8, kB 0 6), (16, kB 0 3)]
def kc1008 : xC := kAr 0 120 [(96, kB 0 9), (7, kB 0 6), (17, kB 0 3)]
def kc1009 : xC := kAr 0 120 [(96, kB 0 9), (6, kB 0 6), (18, kB 0 3)]
def kc1010 : xC := kAr 0 120 [(96, kB 0 9), (5, kB 0 6), (19, kB 0 3)]
def kc1011 : xC := kAr 0 120 [(96, kB 0 9), (4, kB 0 6), (20, kB 0 3)]
def kc1012 : xC := kAr 0 120 [(96, kB 0 9), (3, kB 0 6), (21, kB 0 3)]
def kc1013 : xC := kAr 0 120 [(96, kB 0 9), (2, kB 0 6), (22, kB 0 3)]
def kc1014 : xC := kAr 0 120 [(96, kB 0 9), (1, kB 0 6), (23, kB 0 3)]
def kc1015 : xC := kAr 0 120 [(96, kB 0 9), (23, kB 0 6), (1, kB 1 6)]
def xq_580_0 : xCu := (29, [0, 1, 2, 3, 4, 5, 6], ([kc962, kc218, kc955, kc992], kb90, [([(4, (-1)), (3, 1)], 0), ([(47, (-1)), (3, 1)], 0), ([(47, 1), (4, (-1))], (-1))], [kR 0, kR 3, kI 0, kI 1, kI 45, kI 46, kIc 23], 25), ([], 1))
def xq_580_1 : xCu := (29, [0, 1, 2, 3, 4, 5, 6], ([kc962, kc218, kc955, kc993], kb91, [([(4, (-1)), (3, 1)], 0), ([(47, (-1)), (3, 1)], 0), ([(47, 1), (4, (-1))], (-1))], [kR 0, kR 3, kI 0, kI 1, kI 45, kI 46, kIc 22], 25), ([], 2))
def xq_580_2 : xCu := (29, [0, 1, 2, 3, 4, 5, 6], ([kc962, kc218, kc955, kc994], kb92, [([(4, (-1)), (3, 1)], 0), ([(47, (-1)), (3, 1)], 0), ([(47, 1), (4, (-1))], (-1))], [kR 0, kR 3, kI 0, kI 1, kI 45, kI 46, kIc 21], 25), ([], 3))
def xq_580_3 : xCu := (29, [0, 1, 2, 3, 4, 5, 6], ([kc962, kc218, kc955, kc995], kb93, [([(4, (-1)), (3, 1)], 0), ([(47, (-1)), (3, 1)], 0), ([(47, 1), (4, (-1))], (-1))], [kR 0, kR 3, kI 0, kI 1, kI 45, kI 46, kIc 20], 25), ([], 4))
def xq_580_4 : xCu := (29, [0, 1, 2, 3, 4, 5, 6], ([kc962, kc218, kc955, kc996], kb94, [([(4, (-1)), (3, 1)], 0), ([(47, (-1)), (3, 1)], 0), ([(47, 1), (4, (-1))], (-1))], [kR 0, kR 3, kI 0, kI 1, kI 45, kI 46, kIc 19], 25), ([], 5))
def xq_580_5 : xCu := (29, [0, 1, 2, 3, 4, 5, 6], ([kc962, kc218, kc955, kc997], kb95, [([(4, (-1)), (3, 1)], 0), ([(47, (-1)), (3, 1)], 0), ([(47, 1), (4, (-1))], (-1))], [kR 0, kR 3, kI 0, kI 1, kI 45, kI 46, kIc 18], 25), ([], 6))
def xq_580_6 : xCu := (29, [0, 1, 2, 3, 4, 5, 6], ([kc962, kc218, kc955, kc998], kb96, [([(4, (-1)), (3, 1)], 0), ([(47, (-1)), (3, 1)], 0), ([(47, 1), (4, (-1))], (-1))], [kR 0, kR 3, kI 0, kI 1, kI 45, kI 46, kIc 17], 25), ([], 7))
def xq_580_7 : xCu := (29, [0, 1, 2, 3, 4, 5, 6], ([kc962, kc218, kc955, kc999], kb97, [([(4, (-1)), (3, 1)], 0), ([(47, (-1)), (3, 1)], 0), ([(47, 1), (4, (-1))], (-1))], [kR 0, kR 3, kI 0, kI 1, kI 45, kI 46, kIc 16], 25), ([], 8))
def xq_580_8 : xCu := (29, [0, 1, 2, 3, 4, 5, 6], ([kc962, kc218, kc955, kc1000], kb98, [([(4, (-1)), (3, 1)], 0), ([(47, (-1)), (3, 1)], 0), ([(47, 1), (4, (-1))], (-1))], [kR 0, kR 3, kI 0, kI 1, kI 45, kI 46, kIc 15], 25), ([], 9))
def xq_580_9 : xCu := (29, [0, 1, 2, 3, 4, 5, 6], ([kc962, kc218, kc955, kc1001], kb99, [([(4, (-1)), (3, 1)], 0), ([(47, (-1)), (3, 1)], 0), ([(47, 1), (4, (-1))], (-1))], [kR 0, kR 3, kI 0, kI 1, kI 45, kI 46, kIc 14], 25), ([], 10))
def xq_580_10 : xCu := (29, [0, 1, 2, 3, 4, 5, 6], ([kc962, kc218, kc955, kc1002], kb100, [([(4, (-1)), (3, 1)], 0), ([(47, (-1)), (3, 1)], 0), ([(47, 1), (4, (-1))], (-1))], [kR 0, kR 3, kI 0, kI 1, kI 45, kI 46, kIc 13], 25), ([], 11))
def xq_580_11 : xCu := (29, [0, 1, 2, 3, 4, 5, 6], ([kc962, kc218, kc955, kc1003], kb101, [([(4, (-1)), (3, 1)], 0), ([(47, (-1)), (3, 1)], 0), ([(47, 1), (4, (-1))], (-1))], [kR 0, kR 3, kI 0, kI 1, kI 45, kI 46, kIc 12], 25), ([], 12))
def xq_580_12 : xCu := (29, [0, 1, 2, 3, 4, 5, 6], ([kc962, kc218, kc955, kc1004], kb102, [([(4, (-1)), (3, 1)], 0), ([(47, (-1)), (3, 1)], 0), ([(47, 1), (4, (-1))], (-1))], [kR 0, kR 3, kI 0, kI 1, kI 45, kI 46, kIc 11], 25), ([], 13))
def xq_580_13 : xCu := (29, [0, 1, 2, 3, 4, 5, 6], ([kc962, kc218, kc955, kc1005], kb103, [([(4, (-1)), (3, 1)], 0), ([(47, (-1)), (3, 1)], 0), ([(47, 1), (4, (-1))], (-1))], [kR 0, kR 3, kI 0, kI 1, kI 45, kI 46, kIc 10], 25), ([], 14))
def xq_580_14 : xCu := (29, [0, 1, 2, 3, 4, 5, 6], ([kc962, kc218, kc955, kc1006], kb104, [([(4, (-1)), (3, 1)], 0), ([(47, (-1)), (3, 1)], 0), ([(47, 1), (4, (-1))], (-1))], [kR 0, kR 3, kI 0, kI 1, kI 45, kI 46, kIc 9], 25), ([], 15))
def xq_580_15 : xCu := (29, [0, 1, 2, 3, 4, 5, 6], ([kc962, kc218, kc955, kc1007], kb105, [([(4, (-1)), (3, 1)], 0), ([(47, (-1)), (3, 1)], 0), ([(47, 1), (4, (-1))], (-1))], [kR 0, kR 3, kI 0, kI 1, kI 45, kI 46, kIc 8], 25), ([], 16))
def xq_580_16 : xCu := (29, [0, 1, 2, 3, 4, 5, 6], ([kc962, kc218, kc955, kc1008], kb106, [([(4, (-1)), (3, 1)], 0), ([(47, (-1)), (3, 1)], 0), ([(47, 1), (4, (-1))], (-1))], [kR 0, kR 3, kI 0, kI 1, kI 45, kI 46, kIc 7], 25), ([], 17))
def xq_580_17 : xCu := (29, [0, 1, 2, 3, 4, 5, 6], ([kc962, kc218, kc955, kc1009], kb107, [([(4, (-1)), (3, 1)], 0), ([(47, (-1)), (3, 1)], 0), ([(47, 1), (4, (-1))], (-1))], [kR 0, kR 3, kI 0, kI 1, kI 45, kI 46, kIc 6], 25), ([], 18))
def xq_580_18 : xCu := (29, [0, 1, 2, 3, 4, 5, 6], ([kc962, kc218, kc955, kc1010], kb108, [([(4, (-1)), (3, 1)], 0), ([(47, (-1)), (3, 1)], 0), ([(47, 1), (4, (-1))], (-1))], [kR 0, kR 3, kI 0, kI 1, kI 45, kI 46, kIc 5], 25), ([], 19))
def xq_580_19 : xCu := (29, [0, 1, 2, 3, 4, 5, 6], ([kc962, kc218, kc955, kc1011], kb109, [([(4, (-1)), (3, 1)], 0), ([(47, (-1)), (3, 1)], 0), ([(47, 1), (4, (-1))], (-1))], [kR 0, kR 3, kI 0, kI 1, kI 45, kI 46, kIc 4], 25), ([], 20))
def xq_580_20 : xCu := (29, [0, 1, 2, 3, 4, 5, 6], ([kc962, kc218, kc955, kc1012], kb110, [([(4, (-1)), (3, 1)], 0), ([(47, (-1)), (3, 1)], 0), ([(47, 1), (4, (-1))], (-1))], [kR 0, kR 3, kI 0, kI 1, kI 45, kI 46, kIc 3], 25), ([], 21))
def xq_580_21 : xCu := (29, [0, 1, 2, 3, 4, 5, 6], ([kc962, kc218, kc955, kc1013], kb111, [([(4, (-1)), (3, 1)], 0), ([(47, (-1)), (3, 1)], 0), ([(47, 1), (4, (-1))], (-1))], [kR 0, kR 3, kI 0, kI 1, kI 45, kI 46, kIc 2], 25), ([], 22))
def xq_580_22 : xCu := (29, [0, 1, 2, 3, 4, 5, 6], ([kc962, kc218, kc955, kc1014], kb112, [([(4, (-1)), (3, 1)], 0), ([(47, (-1)), (3, 1)], 0), ([(47, 1), (4, (-1))], (-1))], [kR 0, kR 3, kI 0, kI 1, kI 45, kI 46, kIc 1], 25), ([], 23))
def xq_580_23 : xCu := (29, [0, 1, 2, 3, 4, 5, 6], ([kc986, kc218, kc955, kc958], kb113, [([(4, (-1)), (3, 1)], 0), ([(46, (-1)), (3, 1)], 0), ([(46, 1), (4, (-1))], (-1))], [kR 0, kR 3, kI 0, kI 1, kIc 0, kI 45, kIc 0], 25), ([], 24))
def xq_580_24 : xCu := (29, [0, 1, 2, 3, 4, 5, 6], ([kc987, kc218, kc955, kc992], kb114, [([(4, (-1)), (3, 1)], 0), ([(47, (-1)), (3, 1)], 0), ([(47, 1), (4, (-1))], 0)], [kR 0, kR 3, kI 0, kI 1, kI 45, kI 46, kIc 23], 25), ([], 1))
def xq_580_25 : xCu := (29, [0, 1, 2, 3, 4, 5, 6], ([kc987, kc218, kc955, kc993], kb115, [([(4, (-1)), (3, 1)], 0), ([(47, (-1)), (3, 1)], 0), ([(47, 1), (4, (-1))], 0)], [kR 0, kR 3, kI 0, kI 1, kI 45, kI 46, kIc 22], 25), ([], 2))
def xq_580_26 : xCu := (29, [0, 1, 2, 3, 4, 5, 6], ([kc987, kc218, kc955, kc994], kb116, [([(4, (-1)), (3, 1)], 0), ([(47, (-1)), (3, 1)], 0), ([(47, 1), (4, (-1))], 0)], [kR 0, kR 3, kI 0, kI 1, kI 45, kI 46, kIc 21], 25), ([], 3))
def xq_580_27 : xCu := (29, [0, 1, 2, 3, 4, 5, 6], ([kc987, kc218, kc955, kc995], kb117, [([(4, (-1)), (3, 1)], 0), ([(47, (-1)), (3, 1)], 0), ([(47, 1), (4, (-1))], 0)], [kR 0, kR 3, kI 0, kI 1, kI 45, kI 46, kIc 20], 25), ([], 4))
def xq_580_28 : xCu := (29, [0, 1, 2, 3, 4, 5, 6], ([kc987, kc218, kc955, kc996], kb118, [([(4, (-1)), (3, 1)], 0), ([(47, (-1)), (3, 1)], 0), ([(47, 1), (4, (-1))], 0)], [kR 0, kR 3, kI 0, kI 1, kI 45, kI 46, kIc 19], 25), ([], 5))
def xq_580_29 : xCu := (29, [0, 1, 2, 3, 4, 5, 6], ([kc987, kc218, kc955, kc997], kb119, [([(4, (-1)), (3, 1)], 0), ([(47, (-1)), (3, 1)], 0), ([(47, 1), (4, (-1))], 0)], [kR 0, kR 3, kI 0, kI 1, kI 45, kI 46, kIc 18], 25), ([], 6))
def xq_580_30 : xCu := (29, [0, 1, 2, 3, 4, 5, 6], ([kc987, kc218, kc955, kc998], kb120, [([(4, (-1)), (3, 1)], 0), ([(47, (-1)), (3, 1)], 0), ([(47, 1), (4, (-1))], 0)], [kR 0, kR 3, kI 0, kI 1, kI 45, kI 46, kIc 17], 25), ([], 7))
def xq_580_31 : xCu := (29, [0, 1, 2, 3, 4, 5, 6], ([kc987, kc218, kc955, kc999], kb121, [([(4, (-1)), (3, 1)], 0), ([(47, (-1)), (3, 1)], 0), ([(47, 1), (4, (-1))], 0)], [kR 0, kR 3, kI 0, kI 1, kI 45, kI 46, kIc 16], 25), ([], 8))
def xq_580_32 : xCu := (29, [0, 1, 2, 3, 4, 5, 6], ([kc987, kc218, kc955, kc1000], kb122, [([(4, (-1)), (3, 1)], 0), ([(47, (-1)), (3, 1)], 0), ([(47, 1), (4, (-1))], 0)], [kR 0, kR 3, kI 0, kI 1, kI 45, kI 46, kIc 15], 25), ([], 9))
def xq_580_33 : xCu := (29, [0, 1, 2, 3, 4, 5, 6], ([kc987, kc218, kc955, kc1001], kb123, [([(4, (-1)), (3, 1)], 0), ([(47, (-1)), (3, 1)], 0), ([(47, 1), (4, (-1))], 0)], [kR 0, kR 3, kI 0, kI 1, kI 45, kI 46, kIc 14], 25), ([], 10))
def xq_580_34 : xCu := (29, [0, 1, 2, 3, 4, 5, 6], ([kc987, kc218, kc955, kc1002], kb124, [([(4, (-1)), (3, 1)], 0), ([(47, (-1)), (3, 1)], 0), ([(47, 1), (4, (-1))], 0)], [kR 0, kR 3, kI 0, kI 1, kI 45, kI 46, kIc 13], 25), ([], 11))
def xq_580_35 : xCu := (29, [0, 1, 2, 3, 4, 5, 6], ([kc987, kc218, kc955, kc1003], kb125, [([(4, (-1)), (3, 1)], 0), ([(47, (-1)), (3, 1)], 0), ([(47, 1), (4, (-1))], 0)], [kR 0, kR 3, kI 0, kI 1, kI 45, kI 46, kIc 12], 25), ([], 12))
def xq_580_36 : xCu := (29, [0, 1, 2, 3, 4, 5, 6], ([kc987, kc218, kc955, kc1004], kb126, [([(4, (-1)), (3, 1)], 0), ([(47, (-1)), (3, 1)], 0), ([(47, 1), (4, (-1))], 0)], [kR 0, kR 3, kI 0, kI 1, kI 45, kI 46, kIc 11], 25), ([], 13))
def xq_580_37 : xCu := (29, [0, 1, 2, 3, 4, 5, 6], ([kc987, kc218, kc955, kc1005], kb127, [([(4, (-1)), (3, 1)], 0), ([(47, (-1)), (3, 1)], 0), ([(47, 1), (4, (-1))], 0)], [kR 0, kR 3, kI 0, kI 1, kI 45, kI 46, kIc 10], 25), ([], 14))
def xq_580_38 : xCu := (29, [0, 1, 2, 3, 4, 5, 6], ([kc987, kc218, kc955, kc1006], kb128, [([(4, (-1)), (3, 1)], 0), ([(47, (-1)), (3, 1)], 0), ([(47, 1), (4, (-1))], 0)], [kR 0, kR 3, kI 0, kI 1, kI 45, kI 46, kIc 9], 25), ([], 15))
def xq_580_39 : xCu := (29, [0, 1, 2, 3, 4, 5, 6], ([kc987, kc218, kc955, kc1007], kb129, [([(4, (-1)), (3, 1)], 0), ([(47, (-1)), (3, 1)], 0), ([(47, 1), (4, (-1))], 0)], [kR 0, kR 3, kI 0, kI 1, kI 45, kI 46, kIc 8], 25), ([], 16))
def xq_580_40 : xCu := (29, [0, 1, 2, 3, 4, 5, 6], ([kc987, kc218, kc955, kc1008], kb130, [([(4, (-1)), (3, 1)], 0), ([(47, (-1)), (3, 1)], 0), ([(47, 1), (4, (-1))], 0)], [kR 0, kR 3, kI 0, kI 1, kI 45, kI 46, kIc 7], 25), ([], 17))
def xq_580_41 : xCu := (29, [0, 1, 2, 3, 4, 5, 6], ([kc987, kc218, kc955, kc1009], kb131, [([(4, (-1)), (3, 1)], 0), ([(47, (-1)), (3, 1)], 0), ([(47, 1), (4, (-1))], 0)], [kR 0, kR 3, kI 0, kI 1, kI 45, kI 46, kIc 6], 25), ([], 18))
def xq_580_42 : xCu := (29, [0, 1, 2, 3, 4, 5, 6], ([kc987, kc218, kc955, kc1010], kb132, [([(4, (-1)), (3, 1)], 0), ([(47, (-1)), (3, 1)], 0), ([(47, 1), (4, (-1))], 0)], [kR 0, kR 3, kI 0, kI 1, kI 45, kI 46, kIc 5], 25), ([], 19))
def xq_580_43 : xCu := (29, [0, 1, 2, 3, 4, 5, 6], ([kc987, kc218, kc955, kc1011], kb133, [([(4, (-1)), (3, 1)], 0), ([(47, (-1)), (3, 1)], 0), ([(47, 1), (4, (-1))], 0)], [kR 0, kR 3, kI 0, kI 1, kI 45, kI 46, kIc 4], 25), ([], 20))
def xq_580_44 : xCu := (29, [0, 1, 2, 3, 4, 5, 6], ([kc987, kc218, kc955, kc1012], kb134, [([(4, (-1)), (3, 1)], 0), ([(47, (-1)), (3, 1)], 0), ([(47, 1), (4, (-1))], 0)], [kR 0, kR 3, kI 0, kI 1, kI 45, kI 46, kIc 3], 25), ([], 21))
def xq_580_45 : xCu := (29, [0, 1, 2, 3, 4, 5, 6], ([kc987, kc218, kc955, kc1013], kb135, [([(4, (-1)), (3, 1)], 0), ([(47, (-1)), (3, 1)], 0), ([(47, 1), (4, (-1))], 0)], [kR 0, kR 3, kI 0, kI 1, kI 45, kI 46, kIc 2], 25), ([], 22))
def xq_580_46 : xCu := (29, [0, 1, 2, 3, 4, 5, 6], ([kc987, kc218, kc955, kc1014], kb136, [([(4, (-1)), (3, 1)], 0), ([(47, (-1)), (3, 1)], 0), ([(47, 1), (4, (-1))], 0)], [kR 0, kR 3, kI 0, kI 1, kI 45, kI 46, kIc 1], 25), ([], 23))
def xq_580_47 : xCu := (29, [0, 1, 2, 3, 4, 5, 6], ([kc988, kc218, kc955, kc958], kb137, [([(4, (-1)), (3, 1)], 0), ([(46, (-1)), (3, 1)], 0), ([(46, 1), (4, (-1))], 0)], [kR 0, kR 3, kI 0, kI 1, kIc 0, kI 45, kIc 0], 25), ([], 24))
def xq_580_48 : xCu := (29, [0, 1, 2, 3, 4, 5, 6], ([kc954, kc218, kc955, kc958], kb86, [([(4, (-1)), (3, 1)], 0), ([(45, (-1)), (3, 1)], 0), ([(45, 1), (4, (-1))], 0)], [kR 0, kR 3, kI 0, kI 1, kIc 23, kIc 23, kIc 23], 25), ([], 1))
def xq_580_49 : xCu := (29, [0, 1, 2, 3, 4, 5, 6], ([kc954, kc218, kc955, kc958], kb86, [([(4, (-1)), (3, 1)], 0), ([(45, (-1)), (3, 1)], 0), ([(45, 1), (4, (-1))], 0)], [kR 0, kR 3, kI 0, kI 1, kIc 22, kIc 22, kIc 22], 25), ([], 2))
def xq_580_50 : xCu := (29, [0, 1, 2, 3, 4, 5, 6], ([kc954, kc218, kc955, kc958], kb86, [([(4, (-1)), (3, 1)], 0), ([(45, (-1)), (3, 1)], 0), ([(45, 1), (4, (-1))], 0)], [kR 0, kR 3, kI 0, kI 1, kIc 21, kIc 21, kIc 21], 25), ([], 3))
def xq_580_51 : xCu := (29, [0, 1, 2, 3, 4, 5, 6], ([kc954, kc218, kc955, kc958], kb86, [([(4, (-1)), (3, 1)], 0), ([(45, (-1)), (3, 1)], 0), ([(45, 1), (4, (-1))], 0)], [kR 0, kR 3, kI 0, kI 1, kIc 20, kIc 20, kIc 20], 25), ([], 4))
def xq_580_52 : xCu := (29, [0, 1, 2, 3, 4, 5, 6], ([kc954, kc218, kc955, kc958], kb86, [([(4, (-1)), (3, 1)], 0), ([(45, (-1)), (3, 1)], 0), ([(45, 1), (4, (-1))], 0)], [kR 0, kR 3, kI 0, kI 1, kIc 19, kIc 19, kIc 19], 25), ([], 5))
def xq_580_53 : xCu := (29, [0, 1, 2, 3, 4, 5, 6], ([kc954, kc218, kc955, kc958], kb86, [([(4, (-1)), (3, 1)], 0), ([(45, (-1)), (3, 1)], 0), ([(45, 1), (4, (-1))], 0)], [kR 0, kR 3, kI 0, kI 1, kIc 18, kIc 18, kIc 18], 25), ([], 6))
def xq_580_54 : xCu := (29, [0, 1, 2, 3, 4, 5, 6], ([kc954, kc218, kc955, kc958], kb86, [([(4, (-1)), (3, 1)], 0), ([(45, (-1)), (3, 1)], 0), ([(45, 1), (4, (-1))], 0)], [kR 0, kR 3, kI 0, kI 1, kIc 17, kIc 17, kIc 17], 25), ([], 7))
def xq_580_55 : xCu := (29, [0, 1, 2, 3, 4, 5, 6], ([kc954, kc218, kc955, kc958], kb86, [([(4, (-1)), (3, 1)], 0), ([(45, (-1)), (3, 1)], 0), ([(45, 1), (4, (-1))], 0)], [kR 0, kR 3, kI 0, kI 1, kIc 16, kIc 16, kIc 16], 25), ([], 8))
def xq_580_56 : xCu := (29, [0, 1, 2, 3, 4, 5, 6], ([kc954, kc218, kc955, kc958], kb86, [([(4, (-1)), (3, 1)], 0), ([(45, (-1)), (3, 1)], 0), ([(45, 1), (4, (-1))], 0)], [kR 0, kR 3, kI 0, kI 1, kIc 15, kIc 15, kIc 15], 25), ([], 9))
def xq_580_57 : xCu := (29, [0, 1, 2, 3, 4, 5, 6], ([kc954, kc218, kc955, kc958], kb86, [([(4, (-1)), (3, 1)], 0), ([(45, (-1)), (3, 1)], 0), ([(45, 1), (4, (-1))], 0)], [kR 0, kR 3, kI 0, kI 1, kIc 14, kIc 14, kIc 14], 25), ([], 10))
def xq_580_58 : xCu := (29, [0, 1, 2, 3, 4, 5, 6], ([kc954, kc218, kc955, kc958], kb86, [([(4, (-1)), (3, 1)], 0), ([(45, (-1)), (3, 1)], 0), ([(45, 1), (4, (-1))], 0)], [kR 0, kR 3, kI 0, kI 1, kIc 13, kIc 13, kIc 13], 25), ([], 11))
def xq_580_59 : xCu := (29, [0, 1, 2, 3, 4, 5, 6], ([kc954, kc218, kc955, kc958], kb86, [([(4, (-1)), (3, 1)], 0), ([(45, (-1)), (3, 1)], 0), ([(45, 1), (4, (-1))], 0)], [kR 0, kR 3, kI 0, kI 1, kIc 12, kIc 12, kIc 12], 25), ([], 12))
def xq_580_60 : xCu := (29, [0, 1, 2, 3, 4, 5, 6], ([kc954, kc218, kc955, kc958], kb86, [([(4, (-1)), (3, 1)], 0), ([(45, (-1)), (3, 1)], 0), ([(45, 1), (4, (-1))], 0)], [kR 0, kR 3, kI 0, kI 1, kIc 11, kIc 11, kIc 11], 25), ([], 13))
def xq_580_61 : xCu := (29, [0, 1, 2, 3, 4, 5, 6], ([kc954, kc218, kc955, kc958], kb86, [([(4, (-1)), (3, 1)], 0), ([(45, (-1)), (3, 1)], 0), ([(45, 1), (4, (-1))], 0)], [kR 0, kR 3, kI 0, kI 1, kIc 10, kIc 10, kIc 10], 25), ([], 14))
def xq_580_62 : xCu := (29, [0, 1, 2, 3, 4, 5, 6], ([kc954, kc218, kc955, kc958], kb86, [([(4, (-1)), (3, 1)], 0), ([(45, (-1)), (3, 1)], 0), ([(45, 1), (4, (-1))], 0)], [kR 0, kR 3, kI 0, kI 1, kIc 9, kIc 9, kIc 9], 25), ([], 15))
def xq_580_63 : xCu := (29, [0, 1, 2, 3, 4, 5, 6], ([kc954, kc218, kc955, kc958], kb86, [([(4, (-1)), (3, 1)], 0), ([(45, (-1)), (3, 1)], 0), ([(45, 1), (4, (-1))], 0)], [kR 0, kR 3, kI 0, kI 1, kIc 8, kIc 8, kIc 8], 25), ([], 16))
def xq_580_64 : xCu := (29, [0, 1, 2, 3, 4, 5, 6], ([kc954, kc218, kc955, kc958], kb86, [([(4, (-1)), (3, 1)], 0), ([(45, (-1)), (3, 1)], 0), ([(45, 1), (4, (-1))], 0)], [kR 0, kR 3, kI 0, kI 1, kIc 7, kIc 7, kIc 7], 25), ([], 17))
def xq_580_65 : xCu := (29, [0, 1, 2, 3, 4, 5, 6], ([kc954, kc218, kc955, kc958], kb86, [([(4, (-1)), (3, 1)], 0), ([(45, (-1)), (3, 1)], 0), ([(45, 1), (4, (-1))], 0)], [kR 0, kR 3, kI 0, kI 1, kIc 6, kIc 6, kIc 6], 25), ([], 18))
def xq_580_66 : xCu := (29, [0, 1, 2, 3, 4, 5, 6], ([kc954, kc218, kc955, kc958], kb86, [([(4, (-1)), (3, 1)], 0), ([(45, (-1)), (3, 1)], 0), ([(45, 1), (4, (-1))], 0)], [kR 0, kR 3, kI 0, kI 1, kIc 5, kIc 5, kIc 5], 25), ([], 19))
def xq_580_67 : xCu := (29, [0, 1, 2, 3, 4, 5, 6], ([kc954, kc218, kc955, kc958], kb86, [([(4, (-1)), (3, 1)], 0), ([(45, (-1)), (3, 1)], 0), ([(45, 1), (4, (-1))], 0)], [kR 0, kR 3, kI 0, kI 1, kIc 4, kIc 4, kIc 4], 25), ([], 20))
def xq_580_68 : xCu := (29, [0, 1, 2, 3, 4, 5, 6], ([kc954, kc218, kc955, kc958], kb86, [([(4, (-1)), (3, 1)], 0), ([(45, (-1)), (3, 1)], 0), ([(45, 1), (4, (-1))], 0)], [kR 0, kR 3, kI 0, kI 1, kIc 3, kIc 3, kIc 3], 25), ([], 21))
def xq_580_69 : xCu := (29, [0, 1, 2, 3, 4, 5, 6], ([kc954, kc218, kc955, kc958], kb86, [([(4, (-1)), (3, 1)], 0), ([(45, (-1)), (3, 1)], 0), ([(45, 1), (4, (-1))], 0)], [kR 0, kR 3, kI 0, kI 1, kIc 2, kIc 2, kIc 2], 25), ([], 22))
def xq_580_70 : xCu := (29, [0, 1, 2, 3, 4, 5, 6], ([kc954, kc218, kc955, kc958], kb86, [([(4, (-1)), (3, 1)], 0), ([(45, (-1)), (3, 1)], 0), ([(45, 1), (4, (-1))], 0)], [kR 0, kR 3, kI 0, kI 1, kIc 1, kIc 1, kIc 1], 25), ([], 23))
def xq_580_71 : xCu := (29, [0, 1, 2, 3, 4, 5, 6], ([kc954, kc218, kc955, kc958], kb86, [([(4, (-1)), (3, 1)], 0), ([(45, (-1)), (3, 1)], 0), ([(45, 1), (4, (-1))], 0)], [kR 0, kR 3, kI 0, kI 1, kIc 0, kIc 0, kIc 0], 25), ([], 24))
def xq_580_72 : xCu := (29, [0, 1, 2, 3, 4, 5, 6], ([kc986, kc218, kc955, kc1015], kb113, [([(4, (-1)), (3, 1)], 0), ([(46, (-1)), (3, 1)], 0), ([(46, 1), (4, (-1))], (-1))], [kR 0, kR 3, kI 0, kI 1, kI 45, kIc 23, kIc 24], 25), ([], 0))
def xq_580_73 : xCu := (29, [0, 1, 2, 3, 4, 5, 6], ([kc988, kc218, kc955, kc1015], kb137, [([(4, (-1)), (3, 1)], 0), ([(46, (-1)), (3, 1)], 0), ([(46, 1), (4, (-1))], 0)], [kR 0, kR 3, kI 0, kI 1, kI 45, kIc 23, kIc 24], 25), ([], 0))
def xc_580 : xCt := (([kc960, kc218, kc955, kc958], kb89, [([(4, (-1)), (3, 1)], 0)], [kR 0, kR 3, kI 0, kI 1], 25), [xe_580_0, xe_580_1, xe_580_2], 5)
def xu_580 : List xCu := [xq_580_0,
  xq_580_1,
  xq_580_2,
  xq_580_3,
  xq_580_4,
  xq_580_5,
  xq_580_6,
  xq_580_7,
  xq_580_8,
  xq_580_9,
  xq_580_10,
  xq_580_11,
  xq_580_12,
  xq_580_13,
  xq_580_14,
  xq_580_15,
  xq_580_16,
  xq_580_17,
  xq_580_18,
  xq_580_19,
  xq_580_20,
  xq_580_21,
  xq_580_22,
  xq_580_23,
  xq_580_24,
  xq_580_25,
  xq_580_26,
  xq_580_27,
  xq_580_28,
  xq_580_29,
  xq_580_30,
  xq_580_31,
  xq_580_32,
  xq_580_33,
  xq_580_34,
  xq_580_35,
  xq_580_36,
  xq_580_37,
  xq_580_38,
  xq_580_39,
  xq_580_40,
  xq_580_41,
  xq_580_42,
  xq_580_43,
  xq_580_44,
  xq_580_45,
  xq_580_46,
  xq_580_47,
  xq_580_48,
  xq_580_49,
  xq_580_50,
  xq_580_51,
  xq_580_52,
  xq_580_53,
  xq_580_54,
  xq_580_55,
  xq_580_56,
  xq_580_57,
  xq_580_58,
  xq_580_59,
  xq_580_60,
  xq_580_61,
  xq_580_62,
  xq_580_63,
  xq_580_64,
  xq_580_65,
  xq_580_66,
  xq_580_67,
  xq_580_68,
  xq_580_69,
  xq_580_70,
  xq_580_71,
  xq_580_72,
  xq_580_73]
def xT_580 : List (Nat × xCt) := [(201, xc_574)]
theorem xn_580 : Nat.ble (xsum xc_580.1.2.2.2.1) xm_X10_spanLine.nl = true := by decide +kernel
theorem xv_580_0 : xStP xT_580 xHt 100000 209 xm_X10_spanLine xc_580 xu_580 [] 0 18 = true := by
  rw [← zStP_eq]
  decide +kernel
theorem xv_580_18 : xStP xT_580 xHt 100000 209 xm_X10_spanLine xc_580 xu_580 [] 18 18 = true := by
  rw [← zStP_eq]
  decide +kernel
theorem xv_580_36 : xStP xT_580 xHt 100000 209 xm_X10_spanLine xc_580 xu_580 [] 36 18 = true := by
  rw [← zStP_eq]
  decide +kernel
theorem xv_580_54 : xStP xT_580 xHt 100000 209 xm_X10_spanLine xc_580 xu_580 [] 54 18 = true := by
  rw [← zStP_eq]
  decide +kernel
theorem xv_580_72 : xStP xT_580 xHt 100000 209 xm_X10_spanLine xc_580 xu_580 [] 72 18 = true := by
  rw [← zStP_eq]
  decide +kernel
theorem xv_580_90 : xStP xT_580 xHt 100000 209 xm_X10_spanLine xc_580 xu_580 [] 90 18 = true := by
  rw [← zStP_eq]
  decide +kernel
theorem xv_580_108 : xStP xT_580 xHt 100000 209 xm_X10_spanLine xc_580 xu_580 [] 108 18 = true := by
  rw [← zStP_eq]
  decide +kernel
theorem xv_580_126 : xStP xT_580 xHt 100000 209 xm_X10_spanLine xc_580 xu_580 [] 126 18 = true := by
  rw [← zStP_eq]
  decide +kernel
theorem xv_580_144 : xStP xT_580 xHt 100000 209 xm_X10_spanLine xc_580 xu_580 [] 144 18 = true := by
  rw [← zStP_eq]
  decide +kernel
theorem xz_580 : xStL xT_580 xHt 100000 209 xm_X10_spanLine xc_580 xu_580 162 = true := by
  rw [← zStL_eq]
  decide +kernel
theorem xw_580_0 : ((xu_580.drop 0).take 1).all (xVerCs xT_580 xHt 100000 209 xm_X10_spanLine xc_580 xu_580 [2] [72]) = true := by
  rw [← zVerCs_eq]
  decide +kernel
theorem xw_580_1 : ((xu_580.drop 1).take 1).all (xVerCs xT_580 xHt 100000 209 xm_X10_spanLine xc_580 xu_580 [2] [0]) = true := by
  rw [← zVerCs_eq]
  decide +kernel
theorem xw_580_2 : ((xu_580.drop 2).take 1).all (xVerCs xT_580 xHt 100000 209 xm_X10_spanLine xc_580 xu_580 [2] [1]) = true := by
  rw [← zVerCs_eq]
  decide +kernel
theorem xw_580_3 : ((xu_580.drop 3).take 1).all (xVerCs xT_580 xHt 100000 209 xm_X10_spanLine xc_580 xu_580 [2] [2]) = true := by
  rw [← zVerCs_eq]
  decide +kernel
theorem xw_580_4 : ((xu_580.drop 4).take 1).all (xVerCs xT_580 xHt 100000 209 xm_X10_spanLine xc_580 xu_580 [2] [3]) = true := by
  rw [← zVerCs_eq]
  decide +kernel
theorem xw_580_5 : ((xu_580.drop 5).take 1).all (xVerCs xT_580 xHt 100000 209 xm_X10_spanLine xc_580 xu_580 [2] [4]) = true := by
  rw [← zVerCs_eq]
  decide +kernel
theorem xw_580_6 : ((xu_580.drop 6).take 1).all (xVerCs xT_580 xHt 100000 209 xm_X10_spanLine xc_580 xu_580 [2] [5]) = true := by
  rw [← zVerCs_eq]
  decide +kernel
theorem xw_580_7 : ((xu_580.drop 7).take 1).all (xVerCs xT_580 xHt 100000 209 xm_X10_spanLine xc_580 xu_580 [2] [6]) = true := by
  rw [← zVerCs_eq]
  decide +kernel
theorem xw_580_8 : ((xu_580.drop 8).take 1).all (xVerCs xT_580 xHt 100000 209 xm_X10_spanLine xc_580 xu_580 [2] [7]) = true := by
  rw [← zVerCs_eq]
  decide +kernel
theorem xw_580_9 : ((xu_580.drop 9).take 1).all (xVerCs xT_580 xHt 100000 209 xm_X10_spanLine xc_580 xu_580 [2] [8]) = true := by
  rw [← zVerCs_eq]
  decide +kernel
theorem xw_580_10 : ((xu_580.drop 10).take 1).all (xVerCs xT_580 xHt 100000 209 xm_X10_spanLine xc_580 xu_580 [2] [9]) = true := by
  rw [← zVerCs_eq]
  decide +kernel
theorem xw_580_11 : ((xu_580.drop 11).take 1).all (xVerCs xT_580 xHt 100000 209 xm_X10_spanLine xc_580 xu_580 [2] [10]) = true := by
  rw [← zVerCs_eq]
  decide +kernel
theorem xw_580_12 : ((xu_580.drop 12).take 1).all (xVerCs xT_580 xHt 100000 209 xm_X10_spanLine xc_580 xu_580 [2] [11]) = true := by
  rw [← zVerCs_eq]
  decide +kernel
theorem xw_580_13 : ((xu_580.drop 13).take 1).all (xVerCs xT_580 xHt 100000 209 xm_X10_spanLine xc_580 xu_580 [2] [12]) = true := by
  rw [← zVerCs_eq]
  decide +kernel
theorem xw_580_14 : ((xu_580.drop 14).take 1).all (xVerCs xT_580 xHt 100000 209 xm_X10_spanLine xc_580 xu_580 [2] [13]) = true := by
  rw [← zVerCs_eq]
  decide +kernel
theorem xw_580_15 : ((xu_580.drop 15).take 1).all (xVerCs xT_580 xHt 100000 209 xm_X10_spanLine xc_580 xu_580 [2] [14]) = true := by
  rw [← zVerCs_eq]
  decide +kernel
theorem xw_580_16 : ((xu_580.drop 16).take 1).all (xVerCs xT_580 xHt 100000 209 xm_X10_spanLine xc_580 xu_580 [2] [15]) = true := by
  rw [← zVerCs_eq]
  decide +kernel
theorem xw_580_17 : ((xu_580.drop 17).take 1).all (xVerCs xT_580 xHt 100000 209 xm_X10_spanLine xc_580 xu_580 [2] [16]) = true := by
  rw [← zVerCs_eq]
  decide +kernel
theorem xw_580_18 : ((xu_580.drop 18).take 1).all (xVerCs xT_580 xHt 100000 209 xm_X10_spanLine xc_580 xu_580 [2] [17]) = true := by
  rw [← zVerCs_eq]
  decide +kernel
theorem xw_580_19 : ((xu_580.drop 19).take 1).all (xVerCs xT_580 xHt 100000 209 xm_X10_spanLine xc_580 xu_580 [2] [18]) = true := by
  rw [← zVerCs_eq]
  decide +kernel
theorem xw_580_20 : ((xu_580.drop 20).take 1).all (xVerCs xT_580 xHt 100000 209 xm_X10_spanLine xc_580 xu_580 [2] [19]) = true := by
  rw [← zVerCs_eq]
  decide +kernel
theorem xw_580_21 : ((xu_580.drop 21).take 1).all (xVerCs xT_580 xHt 100000 209 xm_X10_spanLine xc_580 xu_580 [2] [20]) = true := by
  rw [← zVerCs_eq]
  decide +kernel
theorem xw_580_22 : ((xu_580.drop 22).take 1).all (xVerCs xT_580 xHt 100000 209 xm_X10_spanLine xc_580 xu_580 [2] [21]) = true := by
  rw [← zVerCs_eq]
  decide +kernel
theorem xw_580_23 : ((xu_580.drop 23).take 1).all (xVerCs xT_580 xHt 100000 209 xm_X10_spanLine xc_580 xu_580 [] [22]) = true := by
  rw [← zVerCs_eq]
  decide +kernel
theorem xw_580_24 : ((xu_580.drop 24).take 1).all (xVerCs xT_580 xHt 100000 209 xm_X10_spanLine xc_580 xu_580 [1] [73]) = true := by
  rw [← zVerCs_eq]
  decide +kernel
theorem xw_580_25 : ((xu_580.drop 25).take 1).all (xVerCs xT_580 xHt 100000 209 xm_X10_spanLine xc_580 xu_580 [1] [24]) = true := by
  rw [← zVerCs_eq]
  decide +kernel
theorem xw_580_26 : ((xu_580.drop 26).take 1).all (xVerCs xT_580 xHt 100000 209 xm_X10_spanLine xc_580 xu_580 [1] [25]) = true := by
  rw [← zVerCs_eq]
  decide +kernel
theorem xw_580_27 : ((xu_580.drop 27).take 1).all (xVerCs xT_580 xHt 100000 209 xm_X10_spanLine xc_580 xu_580 [1] [26]) = true := by
  rw [← zVerCs_eq]
  decide +kernel
theorem xw_580_28 : ((xu_580.drop 28).take 1).all (xVerCs xT_580 xHt 100000 209 xm_X10_spanLine xc_580 xu_580 [1] [27]) = true := by
  rw [← zVerCs_eq]
  decide +kernel
theorem xw_580_29 : ((xu_580.drop 29).take 1).all (xVerCs xT_580 xHt 100000 209 xm_X10_spanLine xc_580 xu_580 [1] [28]) = true := by
  rw [← zVerCs_eq]
  decide +kernel
theorem xw_580_30 : ((xu_580.drop 30).take 1).all (xVerCs xT_580 xHt 100000 209 xm_X10_spanLine xc_580 xu_580 [1] [29]) = true := by
  rw [← zVerCs_eq]
  decide +kernel
theorem xw_580_31 : ((xu_580.drop 31).take 1).all (xVerCs xT_580 xHt 100000 209 xm_X10_spanLine xc_580 xu_580 [1] [30]) = true := by
  rw [← zVerCs_eq]
  decide +kernel
theorem xw_580_32 : ((xu_580.drop 32).take 1).all (xVerCs xT_580 xHt 100000 209 xm_X10_spanLine xc_580 xu_580 [1] [31]) = true := by
  rw [← zVerCs_eq]
  decide +kernel
theorem xw_580_33 : ((xu_580.drop 33).take 1).all (xVerCs xT_580 xHt 100000 209 xm_X10_spanLine xc_580 xu_580 [1] [32]) = true := by
  rw [← zVerCs_eq]
  decide +kernel
theorem xw_580_34 : ((xu_580.drop 34).take 1).all (xVerCs xT_580 xHt 100000 209 xm_X10_spanLine xc_580 xu_580 [1] [33]) = true := by
  rw [← zVerCs_eq]
  decide +kernel
theorem xw_580_35 : ((xu_580.drop 35).take 1).all (xVerCs xT_580 xHt 100000 209 xm_X10_spanLine xc_580 xu_580 [1] [34]) = true := by
  rw [← zVerCs_eq]
  decide +kernel
theorem xw_580_36 : ((xu_580.drop 36).take 1).all (xVerCs xT_580 xHt 100000 209 xm_X10_spanLine xc_580 xu_580 [1] [35]) = true := by
  rw [← zVerCs_eq]
  decide +kernel
theorem xw_580_37 : ((xu_580.drop 37).take 1).all (xVerCs xT_580 xHt 100000 209 xm_X10_spanLine xc_580 xu_580 [1] [36]) = true := by
  rw [← zVerCs_eq]
  decide +kernel
theorem xw_580_38 : ((xu_580.drop 38).take 1).all (xVerCs xT_580 xHt 100000 209 xm_X10_spanLine xc_580 xu_580 [1] [37]) = true := by
  rw [← zVerCs_eq]
  decide +kernel
theorem xw_580_39 : ((xu_580.drop 39).take 1).all (xVerCs xT_580 xHt 100000 209 xm_X10_spanLine xc_580 xu_580 [1] [38]) = true := by
  rw [← zVerCs_eq]
  decide +kernel
theorem xw_580_40 : ((xu_580.drop 40).take 1).all (xVerCs xT_580 xHt 100000 209 xm_X10_spanLine xc_580 xu_580 [1] [39]) = true := by
  rw [← zVerCs_eq]
  decide +kernel
theorem xw_580_41 : ((xu_580.drop 41).take 1).all (xVerCs xT_580 xHt 100000 209 xm_X10_spanLine xc_580 xu_580 [1] [40]) = true := by
  rw [← zVerCs_eq]
  decide +kernel
theorem xw_580_42 : ((xu_580.drop 42).take 1).all (xVerCs xT_580 xHt 100000 209 xm_X10_spanLine xc_580 xu_580 [1] [41]) = true := by
  rw [← zVerCs_eq]
  decide +kernel
theorem xw_580_43 : ((xu_580.drop 43).take 1).all (xVerCs xT_580 xHt 100000 209 xm_X10_spanLine xc_580 xu_580 [1] [42]) = true := by
  rw [← zVerCs_eq]
  decide +kernel
theorem xw_580_44 : ((xu_580.drop 44).take 1).all (xVerCs xT_580 xHt 100000 209 xm_X10_spanLine xc_580 xu_580 [1] [43]) = true := by
  rw [← zVerCs_eq]
  decide +kernel
theorem xw_580_45 : ((xu_580.drop 45).take 1).all (xVerCs xT_580 xHt 100000 209 xm_X10_spanLine xc_580 xu_580 [1] [44]) = true := by
  rw [← zVerCs_eq]
  decide +kernel
theorem xw_580_46 : ((xu_580.drop 46).take 1).all (xVerCs xT_580 xHt 100000 209 xm_X10_spanLine xc_580 xu_580 [1] [45]) = true := by
  rw [← zVerCs_eq]
  decide +kernel
theorem xw_580_47 : ((xu_580.drop 47).take 1).all (xVerCs xT_580 xHt 100000 209 xm_X10_spanLine xc_580 xu_580 [] [46]) = true := by
  rw [← zVerCs_eq]
  decide +kernel
theorem xw_580_48 : ((xu_580.drop 48).take 1).all (xVerCs xT_580 xHt 100000 209 xm_X10_spanLine xc_580 xu_580 [0] []) = true := by
  rw [← zVerCs_eq]
  decide +kernel
theorem xw_580_49 : ((xu_580.drop 49).take 1).all (xVerCs xT_580 xHt 100000 209 xm_X10_spanLine xc_580 xu_580 [0] []) = true := by
  rw [← zVerCs_eq]
  decide +kernel
theorem xw_580_50 : ((xu_580.drop 50).take 1).all (xVerCs xT_580 xHt 100000 209 xm_X10_spanLine xc_580 xu_580 [0] []) = true := by
  rw [← zVerCs_eq]
  decide +kernel
theorem xw_580_51 : ((xu_580.drop 51).take 1).all (xVerCs xT_580 xHt 100000 209 xm_X10_spanLine xc_580 xu_580 [0] []) = true := by
  rw [← zVerCs_eq]
  decide +kernel
theorem xw_580_52 : ((xu_580.drop 52).take 1).all (xVerCs xT_580 xHt 100000 209 xm_X10_spanLine xc_580 xu_580 [0] []) = true := by
  rw [← zVerCs_eq]
  decide +kernel
theorem xw_580_53 : ((xu_580.drop 53).take 1).all (xVerCs xT_580 xHt 100000 209 xm_X10_spanLine xc_580 xu_580 [0] []) = true := by
  rw [← zVerCs_eq]
  decide +kernel
theorem xw_580_54 : ((xu_580.drop 54).take 1).all (xVerCs xT_580 xHt 100000 209 xm_X10_spanLine xc_580 xu_580 [0] []) = true := by
  rw [← zVerCs_eq]
  decide +kernel
theorem xw_580_55 : ((xu_580.drop 55).take 1).all (xVerCs xT_580 xHt 100000 209 xm_X10_spanLine xc_580 xu_580 [0] []) = true := by
  rw [← zVerCs_eq]
  decide +kernel
theorem xw_580_56 : ((xu_580.drop 56).take 1).all (xVerCs xT_580 xHt 100000 209 xm_X10_spanLine xc_580 xu_580 [0] []) = true := by
  rw [← zVerCs_eq]
  decide +kernel
theorem xw_580_57 : ((xu_580.drop 57).take 1).all (xVerCs xT_580 xHt 100000 209 xm_X10_spanLine xc_580 xu_580 [0] []) = true := by
  rw [← zVerCs_eq]
  decide +kernel
theorem xw_580_58 : ((xu_580.drop 58).take 1).all (xVerCs xT_580 xHt 100000 209 xm_X10_spanLine xc_580 xu_580 [0] []) = true := by
  rw [← zVerCs_eq]
  decide +kernel
theorem xw_580_59 : ((xu_580.drop 59).take 1).all (xVerCs xT_580 xHt 100000 209 xm_X10_spanLine xc_580 xu_580 [0] []) = true := by
  rw [← zVerCs_eq]
  decide +kernel
theorem xw_580_60 : ((xu_580.drop 60).take 1).all (xVerCs xT_580 xHt 100000 209 xm_X10_spanLine xc_580 xu_580 [0] []) = true := by
  rw [← zVerCs_eq]
  decide +kernel
theorem xw_580_61 : ((xu_580.drop 61).take 1).all (xVerCs xT_580 xHt 100000 209 xm_X10_spanLine xc_580 xu_580 [0] []) = true := by
  rw [← zVerCs_eq]
  decide +kernel
theorem xw_580_62 : ((xu_580.drop 62).take 1).all (xVerCs xT_580 xHt 100000 209 xm_X10_spanLine xc_580 xu_580 [0] []) = true := by
  rw [← zVerCs_eq]
  decide +kernel
theorem xw_580_63 : ((xu_580.drop 63).take 1).all (xVerCs xT_580 xHt 100000 209 xm_X10_spanLine xc_580 xu_580 [0] []) = true := by
  rw [← zVerCs_eq]
  decide +kernel
theorem xw_580_64 : ((xu_580.drop 64).take 1).all (xVerCs xT_580 xHt 100000 209 xm_X10_spanLine xc_580 xu_580 [0] []) = true := by
  rw [← zVerCs_eq]
  decide +kernel
theorem xw_580_65 : ((xu_580.drop 65).take 1).all (xVerCs xT_580 xHt 100000 209 xm_X10_spanLine xc_580 xu_580 [0] []) = true := by
  rw [← zVerCs_eq]
  decide +kernel
theorem xw_580_66 : ((xu_580.drop 66).take 1).all (xVerCs xT_580 xHt 100000 209 xm_X10_spanLine xc_580 xu_580 [0] []) = true := by
  rw [← zVerCs_eq]
  decide +kernel
theorem xw_580_67 : ((xu_580.drop 67).take 1).all (xVerCs xT_580 xHt 100000 209 xm_X10_spanLine xc_580 xu_580 [0] []) = true := by
  rw [← zVerCs_eq]
  decide +kernel
theorem xw_580_68 : ((xu_580.drop 68).take 1).all (xVerCs xT_580 xHt 100000 209 xm_X10_spanLine xc_580 xu_580 [0] []) = true := by
  rw [← zVerCs_eq]
  decide +kernel
theorem xw_580_69 : ((xu_580.drop 69).take 1).all (xVerCs xT_580 xHt 100000 209 xm_X10_spanLine xc_580 xu_580 [0] []) = true := by
  rw [← zVerCs_eq]
  decide +kernel
theorem xw_580_70 : ((xu_580.drop 70).take 1).all (xVerCs xT_580 xHt 100000 209 xm_X10_spanLine xc_580 xu_580 [0] []) = true := by
  rw [← zVerCs_eq]
  decide +kernel
theorem xw_580_71 : ((xu_580.drop 71).take 1).all (xVerCs xT_580 xHt 100000 209 xm_X10_spanLine xc_580 xu_580 [0] []) = true := by
  rw [← zVerCs_eq]
  decide +kernel
theorem xw_580_72 : ((xu_580.drop 72).take 1).all (xVerCs xT_580 xHt 100000 209 xm_X10_spanLine xc_580 xu_580 [2] []) = true := by
  rw [← zVerCs_eq]
  decide +kernel
theorem xw_580_73 : ((xu_580.drop 73).take 1).all (xVerCs xT_580 xHt 100000 209 xm_X10_spanLine xc_580 xu_580 [1] []) = true := by
  rw [← zVerCs_eq]
  decide +kernel
theorem xok_580 (l : Launch) : xCk l 209 xc_580 := ⟨xm_X10_spanLine, rfl, xVer_ok xk_all (xHt_ok l) (T := xT_580) (xTc (xok_574 l) (xTn l)) rfl (f := 100000) (cuts := xu_580) (xStE (es := []) xn_580 (xStS xv_580_0 (xStS xv_580_18 (xStS xv_580_36 (xStS xv_580_54 (xStS xv_580_72 (xStS xv_580_90 (xStS xv_580_108 (xStS xv_580_126 (xStS xv_580_144 (xStZ xz_580))))))))))) (xAll0 (xAllS 0 1 (xAllCs xw_580_0) (xAllS 1 1 (xAllCs xw_580_1) (xAllS 2 1 (xAllCs xw_580_2) (xAllS 3 1 (xAllCs xw_580_3) (xAllS 4 1 (xAllCs xw_580_4) (xAllS 5 1 (xAllCs xw_580_5) (xAllS 6 1 (xAllCs xw_580_6) (xAllS 7 1 (xAllCs xw_580_7) (xAllS 8 1 (xAllCs xw_580_8) (xAllS 9 1 (xAllCs xw_580_9) (xAllS 10 1 (xAllCs xw_580_10) (xAllS 11 1 (xAllCs xw_580_11) (xAllS 12 1 (xAllCs xw_580_12) (xAllS 13 1 (xAllCs xw_580_13) (xAllS 14 1 (xAllCs xw_580_14) (xAllS 15 1 (xAllCs xw_580_15) (xAllS 16 1 (xAllCs xw_580_16) (xAllS 17 1 (xAllCs xw_580_17) (xAllS 18 1 (xAllCs xw_580_18) (xAllS 19 1 (xAllCs xw_580_19) (xAllS 20 1 (xAllCs xw_580_20) (xAllS 21 1 (xAllCs xw_580_21) (xAllS 22 1 (xAllCs xw_580_22) (xAllS 23 1 (xAllCs xw_580_23) (xAllS 24 1 (xAllCs xw_580_24) (xAllS 25 1 (xAllCs xw_580_25) (xAllS 26 1 (xAllCs xw_580_26) (xAllS 27 1 (xAllCs xw_580_27) (xAllS 28 1 (xAllCs xw_580_28) (xAllS 29 1 (xAllCs xw_580_29) (xAllS 30 1 (xAllCs xw_580_30) (xAllS 31 1 (xAllCs xw_580_31) (xAllS 32 1 (xAllCs xw_580_32) (xAllS 33 1 (xAllCs xw_580_33) (xAllS 34 1 (xAllCs xw_580_34) (xAllS 35 1 (xAllCs xw_580_35) (xAllS 36 1 (xAllCs xw_580_36) (xAllS 37 1 (xAllCs xw_580_37) (xAllS 38 1 (xAllCs xw_580_38) (xAllS 39 1 (xAllCs xw_580_39) (xAllS 40 1 (xAllCs xw_580_40) (xAllS 41 1 (xAllCs xw_580_41) (xAllS 42 1 (xAllCs xw_580_42) (xAllS 43 1 (xAllCs xw_580_43) (xAllS 44 1 (xAllCs xw_580_44) (xAllS 45 1 (xAllCs xw_580_45) (xAllS 46 1 (xAllCs xw_580_46) (xAllS 47 1 (xAllCs xw_580_47) (xAllS 48 1 (xAllCs xw_580_48) (xAllS 49 1 (xAllCs xw_580_49) (xAllS 50 1 (xAllCs xw_580_50) (xAllS 51 1 (xAllCs xw_580_51) (xAllS 52 1 (xAllCs xw_580_52) (xAllS 53 1 (xAllCs xw_580_53) (xAllS 54 1 (xAllCs xw_580_54) (xAllS 55 1 (xAllCs xw_580_55) (xAllS 56 1 (xAllCs xw_580_56) (xAllS 57 1 (xAllCs xw_580_57) (xAllS 58 1 (xAllCs xw_580_58) (xAllS 59 1 (xAllCs xw_580_59) (xAllS 60 1 (xAllCs xw_580_60) (xAllS 61 1 (xAllCs xw_580_61) (xAllS 62 1 (xAllCs xw_580_62) (xAllS 63 1 (xAllCs xw_580_63) (xAllS 64 1 (xAllCs xw_580_64) (xAllS 65 1 (xAllCs xw_580_65) (xAllS 66 1 (xAllCs xw_580_66) (xAllS 67 1 (xAllCs xw_580_67) (xAllS 68 1 (xAllCs xw_580_68) (xAllS 69 1 (xAllCs xw_580_69) (xAllS 70 1 (xAllCs xw_580_70) (xAllS 71 1 (xAllCs xw_580_71) (xAllS 72 1 (xAllCs xw_580_72) (xAllS 73 1 (xAllCs xw_580_73) (xAllZ (by decide +kernel)))))))))))))))))))))))))))))))))))))))))))))))))))))))))))))))))))))))))))))⟩
def kc1016 : xC := kAr 0 55 [(1, kS 29), (5, kB3), (1, kS 30), (1, kS 31), (3, kB3), (1, kS 32), (5, kB3), (1, kS 33), (1, kS 34), (3, kB3), (1, kS 35), (5, kB3), (1, kS 36), (1, kS 37), (3, kB3), (1, kS 38), (5, kB3), (1, kS 39), (1, kS 40), (3, kB3), (1, kS 41), (5, kB3), (1, kS 42), (1, kS 43), (1, kS 44), (1, kSc 3), (1, kB3)]
def xe_581_0 : xPt := ([kc954, kc218, kc1016, kc991], kb86, [([(45, (-1)), (3, 1)], 0), ([(45, 1), (4, (-1))], 0)], [], 25)
def xe_581_1 : xPt := ([kc957, kc218, kc1016, kc537], kb87, [([(45, (-1)), (3, 1)], 0), ([(45, 1), (4, (-1))], 0)], [], 25)
def xe_581_2 : xPt := ([kc959, kc218, kc1016, kc537], kb88, [([(45, (-1)), (3, 1)], 0), ([(45, 1), (4, (-1))], (-1))], [], 25)
def kc1017 : xC := kAr 0 120 [(119, kB 0 9), (1, kB 0 6)]
def kc1018 : xC := kAr 0 120 [(118, kB 0 9), (2, kB 0 6)]
def kc1019 : xC := kAr 0 120 [(117, kB 0 9), (3, kB 0 6)]
def kc1020 : xC := kAr 0 120 [(116, kB 0 9), (4, kB 0 6)]
def kc1021 : xC := kAr 0 120 [(115, kB 0 9), (5, kB 0 6)]
def kc1022 : xC := kAr 0 120 [(114, kB 0 9), (6, kB 0 6)]
def kc1023 : xC := kAr 0 120 [(113, kB 0 9), (7, kB 0 6)]
def kc1024 : xC := kAr 0 120 [(112, kB 0 9), (8, kB 0 6)]
def kc1025 : xC := kAr 0 120 [(111, kB 0 9), (9, kB 0 6)]
def kc1026 : xC := kAr 0 120 [(110, kB 0 9), (10, kB 0 6)]
def kc1027 : xC := kAr 0 120 [(109, kB 0 9), (11, kB 0 6)]
def kc1028 : xC := kAr 0 120 [(108, kB 0 9), (12, kB 0 6)]
def kc1029 : xC := kAr 0 120 [(107, kB 0 9), (13, kB 0 6)]
def kc1030 : xC := kAr 0 120 [(106, kB 0 9), (14, kB 0 6)]
def kc1031 : xC := kAr 0 120 [(105, kB 0 9), (15, kB 0 6)]
def kc1032 : xC := kAr 0 120 [(104, kB 0 9), (16, kB 0 6)]
def kc1033 : xC := kAr 0 120 [(103, kB 0 9), (17, kB 0 6)]
def kc1034 : xC := kAr 0 120 [(102, kB 0 9), (18, kB 0 6)]
def kc1035 : xC := kAr 0 120 [(101, kB 0 9), (19, kB 0 6)]
def kc1036 : xC := kAr 0 120 [(100, kB 0 9), (20, kB 0 6)]
def kc1037 : xC := kAr 0 120 [(99, kB 0 9), (21, kB 0 6)]
def kc1038 : xC := kAr 0 120 [(98, kB 0 9), (22, kB 0 6)]
def kc1039 : xC := kAr 0 120 [(97, kB 0 9), (23, kB 0 6)]
def kc1040 : xC := kAr 0 120 [(119, kB 0 9), (1, kB 1 9)]
def xq_581_0 : xCu := (29, [0, 1, 2, 3, 4, 5, 6], ([kc962, kc218, kc990, kc1017], kb90, [([(4, (-1)), (3, 1)], 0), ([(47, (-1)), (3, 1)], 0), ([(47, 1), (4, (-1))], (-1))], [kR 0, kR 3, kI 0, kI 1, kI 45, kI 46, kIc 23], 25), ([], 1))
def xq_581_1 : xCu := (29, [0, 1, 2, 3, 4, 5, 6], ([kc962, kc218, kc990, kc1018], kb91, [([(4, (-1)), (3, 1)], 0), ([(47, (-1)), (3, 1)], 0), ([(47, 1), (4, (-1))], (-1))], [kR 0, kR 3, kI 0, kI 1, kI 45, kI 46, kIc 22], 25), ([], 2))
def xq_581_2 : xCu := (29, [0, 1, 2, 3, 4, 5, 6], ([kc962, kc218, kc990, kc1019], kb92, [([(4, (-1)), (3, 1)], 0), ([(47, (-1)), (3, 1)], 0), ([(47, 1), (4, (-1))], (-1))], [kR 0, kR 3, kI 0, kI 1, kI 45, kI 46, kIc 21], 25), ([], 3))
def xq_581_3 : xCu := (29, [0, 1, 2, 3, 4, 5, 6], ([kc962, kc218, kc990, kc1020], kb93, [([(4, (-1)), (3, 1)], 0), ([(47, (-1)), (3, 1)], 0), ([(47, 1), (4, (-1))], (-1))], [kR 0, kR 3, kI 0, kI 1, kI 45, kI 46, kIc 20], 25), ([], 4))
def xq_581_4 : xCu := (29, [0, 1, 2, 3, 4, 5, 6], ([kc962, kc218, kc990, kc1021], kb94, [([(4, (-1)), (3, 1)], 0), ([(47, (-1)), (3, 1)], 0), ([(47, 1), (4, (-1))], (-1))], [kR 0, kR 3, kI 0, kI 1, kI 45, kI 46, kIc 19], 25), ([], 5))
def xq_581_5 : xCu := (29, [0, 1, 2, 3, 4, 5, 6], ([kc962, kc218, kc990, kc1022], kb95, [([(4, (-1)), (3, 1)], 0), ([(47, (-1)), (3, 1)], 0), ([(47, 1), (4, (-1))], (-1))], [kR 0, kR 3, kI 0, kI 1, kI 45, kI 46, kIc 18], 25), ([], 6))
def xq_581_6 : xCu := (29, [0, 1, 2, 3, 4, 5, 6], ([kc962, kc218, kc990, kc1023], kb96, [([(4, (-1)), (3, 1)], 0), ([(47, (-1)), (3, 1)], 0), ([(47, 1), (4, (-1))], (-1))], [kR 0, kR 3, kI 0, kI 1, kI 45, kI 46, kIc 17], 25), ([], 7))
def xq_581_7 : xCu := (29, [0, 1, 2, 3, 4, 5, 6], ([kc962, kc218, kc990, kc1024], kb97, [([(4, (-1)), (3, 1)], 0), ([(47, (-1)), (3, 1)], 0), ([(47, 1), (4, (-1))], (-1))], [kR 0, kR 3, kI 0, kI 1, kI 45, kI 46, kIc 16], 25), ([], 8))
def xq_581_8 : xCu := (29, [0, 1, 2, 3, 4, 5, 6], ([kc962, kc218, kc990, kc1025], kb98, [([(4, (-1)), (3, 1)], 0), ([(47, (-1)), (3, 1)], 0), ([(47, 1), (4, (-1))], (-1))], [kR 0, kR 3, kI 0, kI 1, kI 45, kI 46, kIc 15], 25), ([], 9))
def xq_581_9 : xCu := (29, [0, 1, 2, 3, 4, 5, 6], ([kc962, kc218, kc990, kc1026], kb99, [([(4, (-1)), (3, 1)], 0), ([(47, (-1)), (3, 1)], 0), ([(47, 1), (4, (-1))], (-1))], [kR 0, kR 3, kI 0, kI 1, kI 45, kI 46, kIc 14], 25), ([], 10))
def xq_581_10 : xCu := (29, [0, 1, 2, 3, 4, 5, 6], ([kc962, kc218, kc990, kc1027], kb100, [([(4, (-1)), (3, 1)], 0), ([(47, (-1)), (3, 1)], 0), ([(47, 1), (4, (-1))], (-1))], [kR 0, kR 3, kI 0, kI 1, kI 45, kI 46, kIc 13], 25), ([], 11))
def xq_581_11 : xCu := (29, [0, 1, 2, 3, 4, 5, 6], ([kc962, kc218, kc990, kc1028], kb101, [([(4, (-1)), (3, 1)], 0), ([(47, (-1)), (3, 1)], 0), ([(47, 1), (4, (-1))], (-1))], [kR 0, kR 3, kI 0, kI 1, kI 45, kI 46, kIc 12], 25), ([], 12))
def xq_581_12 : xCu := (29, [0, 1, 2, 3, 4, 5, 6], ([kc962, kc218, kc990, kc1029], kb102, [([(4, (-1)), (3, 1)], 0), ([(47, (-1)), (3, 1)], 0), ([(47, 1), (4, (-1))], (-1))], [kR 0, kR 3, kI 0, kI 1, kI 45, kI 46, kIc 11], 25), ([], 13))
def xq_581_13 : xCu := (29, [0, 1, 2, 3, 4, 5, 6], ([kc962, kc218, kc990, kc1030], kb103, [([(4, (-1)), (3, 1)], 0), ([(47, (-1)), (3, 1)], 0), ([(47, 1), (4, (-1))], (-1))], [kR 0, kR 3, kI 0, kI 1, kI 45, kI 46, kIc 10], 25), ([], 14))
def xq_581_14 : xCu := (29, [0, 1, 2, 3, 4, 5, 6], ([kc962, kc218, kc990, kc1031], kb104, [([(4, (-1)), (3, 1)], 0), ([(47, (-1)), (3, 1)], 0), ([(47, 1), (4, (-1))], (-1))], [kR 0, kR 3, kI 0, kI 1, kI 45, kI 46, kIc 9], 25), ([], 15))
def xq_581_15 : xCu := (29, [0, 1, 2, 3, 4, 5, 6], ([kc962, kc218, kc990, kc1032], kb105, [([(4, (-1)), (3, 1)], 0), ([(47, (-1)), (3, 1)], 0), ([(47, 1), (4, (-1))], (-1))], [kR 0, kR 3, kI 0, kI 1, kI 45, kI 46, kIc 8], 25), ([], 16))
def xq_581_16 : xCu := (29, [0, 1, 2, 3, 4, 5, 6], ([kc962, kc218, kc990, kc1033], kb106, [([(4, (-1)), (3, 1)], 0), ([(47, (-1)), (3, 1)], 0), ([(47, 1), (4, (-1))], (-1))], [kR 0, kR 3, kI 0, kI 1, kI 45, kI 46, kIc 7], 25), ([], 17))
def xq_581_17 : xCu := (29, [0, 1, 2, 3, 4, 5, 6], ([kc962, kc218, kc990, kc1034], kb107, [([(4, (-1)), (3, 1)], 0), ([(47, (-1)), (3, 1)], 0), ([(47, 1), (4, (-1))], (-1))], [kR 0, kR 3, kI 0, kI 1, kI 45, kI 46, kIc 6], 25), ([], 18))
def xq_581_18 : xCu := (29, [0, 1, 2, 3, 4, 5, 6], ([kc962, kc218, kc990, kc1035], kb108, [([(4, (-1)), (3, 1)], 0), ([(47, (-1)), (3, 1)], 0), ([(47, 1), (4, (-1))], (-1))], [kR 0, kR 3, kI 0, kI 1, kI 45, kI 46, kIc 5], 25), ([], 19))
def xq_581_19 : xCu := (29, [0, 1, 2, 3, 4, 5, 6], ([kc962, kc218, kc990, kc1036], kb109, [([(4, (-1)), (3, 1)], 0), ([(47, (-1)), (3, 1)], 0), ([(47, 1), (4, (-1))], (-1))], [kR 0, kR 3, kI 0, kI 1, kI 45, kI 46, kIc 4], 25), ([], 20))
def xq_581_20 : xCu := (29, [0, 1, 2, 3, 4, 5, 6], ([kc962, kc218, kc990, kc1037], kb110, [([(4, (-1)), (3, 1)], 0), ([(47, (-1)), (3, 1)], 0), ([(47, 1), (4, (-1))], (-1))], [kR 0, kR 3, kI 0, kI 1, kI 45, kI 46, kIc 3], 25), ([], 21))
def xq_581_21 : xCu := (29, [0, 1, 2, 3, 4, 5, 6], ([kc962, kc218, kc990, kc1038], kb111, [([(4, (-1)), (3, 1)], 0), ([(47, (-1)), (3, 1)], 0), ([(47, 1), (4, (-1))], (-1))], [kR 0, kR 3, kI 0, kI 1, kI 45, kI 46, kIc 2], 25), ([], 22))
def xq_581_22 : xCu := (29, [0, 1, 2, 3, 4, 5, 6], ([kc962, kc218, kc990, kc1039], kb112, [([(4, (-1)), (3, 1)], 0), ([(47, (-1)), (3, 1)], 0), ([(47, 1), (4, (-1))], (-1))], [kR 0, kR 3, kI 0, kI 1, kI 45, kI 46, kIc 1], 25), ([], 23))
def xq_581_23 : xCu := (29, [0, 1, 2, 3, 4, 5, 6], ([kc986, kc218, kc990, kc991], kb113, [([(4, (-1)), (3, 1)], 0), ([(46, (-1)), (3, 1)], 0), ([(46, 1), (4, (-1))], (-1))], [kR 0, kR 3, kI 0, kI 1, kIc 0, kI 45, kIc 0], 25), ([], 24))
def xq_581_24 : xCu := (29, [0, 1, 2, 3, 4, 5, 6], ([kc987, kc218, kc990, kc1017], kb114, [([(4, (-1)), (3, 1)], 0), ([(47, (-1)), (3, 1)], 0), ([(47, 1), (4, (-1))], 0)], [kR 0, kR 3, kI 0, kI 1, kI 45, kI 46, kIc 23], 25), ([], 1))
def xq_581_25 : xCu := (29, [0, 1, 2, 3, 4, 5, 6], ([kc987, kc218, kc990, kc1018], kb115, [([(4, (-1)), (3, 1)], 0), ([(47, (-1)), (3, 1)], 0), ([(47, 1), (4, (-1))], 0)], [kR 0, kR 3, kI 0, kI 1, kI 45, kI 46, kIc 22], 25), ([], 2))
def xq_581_26 : xCu := (29, [0, 1, 2, 3, 4, 5, 6], ([kc987, kc218, kc990, kc1019], kb116, [([(4, (-1)), (3, 1)], 0), ([(47, (-1)), (3, 1)], 0), ([(47, 1), (4, (-1))], 0)], [kR 0, kR 3, kI 0, kI 1, kI 45, kI 46, kIc 21], 25), ([], 3))
def xq_581_27 : xCu := (29, [0, 1, 2, 3, 4, 5, 6], ([kc987, kc218, kc990, kc1020], kb117, [([(4, (-1)), (3, 1)], 0), ([(47, (-1)), (3, 1)], 0), ([(47, 1), (4, (-1))], 0)], [kR 0, kR 3, kI 0, kI 1, kI 45, kI 46, kIc 20], 25), ([], 4))
def xq_581_28 : xCu := (29, [0, 1, 2, 3, 4, 5, 6], ([kc987, kc218, kc990, kc1021], kb118, [([(4, (-1)), (3, 1)], 0), ([(47, (-1)), (3, 1)], 0), ([(47, 1), (4, (-1))], 0)], [kR 0, kR 3, kI 0, kI 1, kI 45, kI 46, kIc 19], 25), ([], 5))
def xq_581_29 : xCu := (29, [0, 1, 2, 3, 4, 5, 6], ([kc987, kc218, kc990, kc1022], kb119, [([(4, (-1)), (3, 1)], 0), ([(47, (-1)), (3, 1)], 0), ([(47, 1), (4, (-1))], 0)], [kR 0, kR 3, kI 0, kI 1, kI 45, kI 46, kIc 18], 25), ([], 6))
def xq_581_30 : xCu := (29, [0, 1, 2, 3, 4, 5, 6], ([kc987, kc218, kc990, kc1023], kb120, [([(4, (-1)), (3, 1)], 0), ([(47, (-1)), (3, 1)], 0), ([(47, 1), (4, (-1))], 0)], [kR 0, kR 3, kI 0, kI 1, kI 45, kI 46, kIc 17], 25), ([], 7))
def xq_581_31 : xCu := (29, [0, 1, 2, 3, 4, 5, 6], ([kc987, kc218, kc990, kc1024], kb121, [([(4, (-1)), (3, 1)], 0), ([(47, (-1)), (3, 1)], 0), ([(47, 1), (4, (-1))], 0)], [kR 0, kR 3, kI 0, kI 1, kI 45, kI 46, kIc 16], 25), ([], 8))
def xq_581_32 : xCu := (29, [0, 1, 2, 3, 4, 5, 6], ([kc987, kc218, kc990, kc1025], kb122, [([(4, (-1)), (3, 1)], 0), ([(47, (-1)), (3, 1)], 0), ([(47, 1), (4, (-1))], 0)], [kR 0, kR 3, kI 0, kI 1, kI 45, kI 46, kIc 15], 25), ([], 9))
def xq_581_33 : xCu := (29, [0, 1, 2, 3, 4, 5, 6], ([kc987, kc218, kc990, kc1026], kb123, [([(4, (-1)), (3, 1)], 0), ([(47, (-1)), (3, 1)], 0), ([(47, 1), (4, (-1))], 0)], [kR 0, kR 3, kI 0, kI 1, kI 45, kI 46, kIc 14], 25), ([], 10))
def xq_581_34 : xCu := (29, [0, 1, 2, 3, 4, 5, 6], ([kc987, kc218, kc990, kc1027], kb124, [([(4, (-1)), (3, 1)], 0), ([(47, (-1)), (3, 1)], 0), ([(47, 1), (4, (-1))], 0)], [kR 0, kR 3, kI 0, kI 1, kI 45, kI 46, kIc 13], 25), ([], 11))
def xq_581_35 : xCu := (29, [0, 1, 2, 3, 4, 5, 6], ([kc987, kc218, kc990, kc1028], kb125, [([(4, (-1)), (3, 1)], 0), ([(47, (-1)), (3, 1)], 0), ([(47, 1), (4, (-1))], 0)], [kR 0, kR 3, kI 0, kI 1, kI 45, kI 46, kIc 12], 25), ([], 12))
def xq_581_36 : xCu := (29, [0, 1, 2, 3, 4, 5, 6], ([kc987, kc218, kc990, kc1029], kb126, [([(4, (-1)), (3, 1)], 0), ([(47, (-1)), (3, 1)], 0), ([(47, 1), (4, (-1))], 0)], [kR 0, kR 3, kI 0, kI 1, kI 45, kI 46, kIc 11], 25), ([], 13))
def xq_581_37 : xCu := (29, [0, 1, 2, 3, 4, 5, 6], ([kc987, kc218, kc990, kc1030], kb127, [([(4, (-1)), (3, 1)], 0), ([(47, (-1)), (3, 1)], 0), ([(47, 1), (4, (-1))], 0)], [kR 0, kR 3, kI 0, kI 1, kI 45, kI 46, kIc 10], 25), ([], 14))
def xq_581_38 : xCu := (29, [0, 1, 2, 3, 4, 5, 6], ([kc987, kc218, kc990, kc1031], kb128, [([(4, (-1)), (3, 1)], 0), ([(47, (-1)), (3, 1)], 0), ([(47, 1), (4, (-1))], 0)], [kR 0, kR 3, kI 0, kI 1, kI 45, kI 46, kIc 9], 25), ([], 15))
def xq_581_39 : xCu := (29, [0, 1, 2, 3, 4, 5, 6], ([kc987, kc218, kc990, kc1032], kb129, [([(4, (-1)), (3, 1)], 0), ([(47, (-1)), (3, 1)], 0), ([(47, 1), (4, (-1))], 0)], [kR 0, kR 3, kI 0, kI 1, kI 45, kI 46, kIc 8], 25), ([], 16))
def xq_581_40 : xCu := (29, [0, 1, 2, 3, 4, 5, 6], ([kc987, kc218, kc990, kc1033], kb130, [([(4, (-1)), (3, 1)], 0), ([(47, (-1)), (3, 1)], 0), ([(47, 1), (4, (-1))], 0)], [kR 0, kR 3, kI 0, kI 1, kI 45, kI 46, kIc 7], 25), ([], 17))
def xq_581_41 : xCu := (29, [0, 1, 2, 3, 4, 5, 6], ([kc987, kc218, kc990, kc1034], kb131, [([(4, (-1)), (3, 1)], 0), ([(47, (-1)), (3, 1)], 0), ([(47, 1), (4, (-1))], 0)], [kR 0, kR 3, kI 0, kI 1, kI 45, kI 46, kIc 6], 25), ([], 18))
def xq_581_42 : xCu := (29, [0, 1, 2, 3, 4, 5, 6], ([kc987, kc218, kc990, kc1035], kb132, [([(4, (-1)), (3, 1)], 0), ([(47, (-1)), (3, 1)], 0), ([(47, 1), (4, (-1))], 0)], [kR 0, kR 3, kI 0, kI 1, kI 45, kI 46, kIc 5], 25), ([], 19))
def xq_581_43 : xCu := (29, [0, 1, 2, 3, 4, 5, 6], ([kc987, kc218, kc990, kc1036], kb133, [([(4, (-1)), (3, 1)], 0), ([(47, (-1)), (3, 1)], 0), ([(47, 1), (4, (-1))], 0)], [kR 0, kR 3, kI 0, kI 1, kI 45, kI 46, kIc 4], 25), ([], 20))
def xq_581_44 : xCu := (29, [0, 1, 2, 3, 4, 5, 6], ([kc987, kc218, kc990, kc1037], kb134, [([(4, (-1)), (3, 1)], 0), ([(47, (-1)), (3, 1)], 0), ([(47, 1), (4, (-1))], 0)], [kR 0, kR 3, kI 0, kI 1, kI 45, kI 46, kIc 3], 25), ([], 21))
def xq_581_45 : xCu := (29, [0, 1, 2, 3, 4, 5, 6], ([kc987, kc218, kc990, kc1038], kb135, [([(4, (-1)), (3, 1)], 0), ([(47, (-1)), (3, 1)], 0), ([(47, 1), (4, (-1))], 0)], [kR 0, kR 3, kI 0, kI 1, kI 45, kI 46, kIc 2], 25), ([], 22))
def xq_581_46 : xCu := (29, [0, 1, 2, 3, 4, 5, 6], ([kc987, kc218, kc990, kc1039], kb136, [([(4, (-1)), (3, 1)], 0), ([(47, (-1)), (3, 1)], 0), ([(47, 1), (4, (-1))], 0)], [kR 0, kR 3, kI 0, kI 1, kI 45, kI 46, kIc 1], 25), ([], 23))
def xq_581_47 : xCu := (29, [0, 1, 2, 3, 4, 5, 6], ([kc988, kc218, kc990, kc991], kb137, [([(4, (-1)), (3, 1)], 0), ([(46, (-1)), (3, 1)], 0), ([(46, 1), (4, (-1))], 0)], [kR 0, kR 3, kI 0, kI 1, kIc 0, kI 45, kIc 0], 25), ([], 24))
def xq_581_48 : xCu := (29, [0, 1, 2, 3, 4, 5, 6], ([kc954, kc218, kc990, kc991], kb86, [([(4, (-1)), (3, 1)], 0), ([(45, (-1)), (3, 1)], 0), ([(45, 1), (4, (-1))], 0)], [kR 0, kR 3, kI 0, kI 1, kIc 23, kIc 23, kIc 23], 25), ([], 1))
def xq_581_49 : xCu := (29, [0, 1, 2, 3, 4, 5, 6], ([kc954, kc218, kc990, kc991], kb86, [([(4, (-1)), (3, 1)], 0), ([(45, (-1)), (3, 1)], 0), ([(45, 1), (4, (-1))], 0)], [kR 0, kR 3, kI 0, kI 1, kIc 22, kIc 22, kIc 22], 25), ([], 2))
def xq_581_50 : xCu := (29, [0, 1, 2, 3, 4, 5, 6], ([kc954, kc218, kc990, kc991], kb86, [([(4, (-1)), (3, 1)], 0), ([(45, (-1)), (3, 1)], 0), ([(45, 1), (4, (-1))], 0)], [kR 0, kR 3, kI 0, kI 1, kIc 21, kIc 21, kIc 21], 25), ([], 3))
def xq_581_51 : xCu := (29, [0, 1, 2, 3, 4, 5, 6], ([kc954, kc218, kc990, kc991], kb86, [([(4, (-1)), (3, 1)], 0), ([(45, (-1)), (3, 1)], 0), ([(45, 1), (4, (-1))], 0)], [kR 0, kR 3, kI 0, kI 1, kIc 20, kIc 20, kIc 20], 25), ([], 4))
def xq_581_52 : xCu := (29, [0, 1, 2, 3, 4, 5, 6], ([kc954, kc218, kc990, kc991], kb86, [([(4, (-1)), (3, 1)], 0), ([(45, (-1)), (3, 1)], 0), ([(45, 1), (4, (-1))], 0)], [kR 0, kR 3, kI 0, kI 1, kIc 19, kIc 19, kIc 19], 25), ([], 5))
def xq_581_53 : xCu := (29, [0, 1, 2, 3, 4, 5, 6], ([kc954, kc218, kc990, kc991], kb86, [([(4, (-1)), (3, 1)], 0), ([(45, (-1)), (3, 1)], 0), ([(45, 1), (4, (-1))], 0)], [kR 0, kR 3, kI 0, kI 1, kIc 18, kIc 18, kIc 18], 25), ([], 6))
def xq_581_54 : xCu := (29, [0, 1, 2, 3, 4, 5, 6], ([kc954, kc218, kc990, kc991], kb86, [([(4, (-1)), (3, 1)], 0), ([(45, (-1)), (3, 1)], 0), ([(45, 1), (4, (-1))], 0)], [kR 0, kR 3, kI 0, kI 1, kIc 17, kIc 17, kIc 17], 25), ([], 7))
def xq_581_55 : xCu := (29, [0, 1, 2, 3, 4, 5, 6], ([kc954, kc218, kc990, kc991], kb86, [([(4, (-1)), (3, 1)], 0), ([(45, (-1)), (3, 1)], 0), ([(45, 1), (4, (-1))], 0)], [kR 0, kR 3, kI 0, kI 1, kIc 16, kIc 16, kIc 16], 25), ([], 8))
def xq_581_56 : xCu := (29, [0, 1, 2, 3, 4, 5, 6], ([kc954, kc218, kc990, kc991], kb86, [([(4, (-1)), (3, 1)], 0), ([(45, (-1)), (3, 1)], 0), ([(45, 1), (4, (-1))], 0)], [kR 0, kR 3, kI 0, kI 1, kIc 15, kIc 15, kIc 15], 25), ([], 9))
def xq_581_57 : xCu := (29, [0, 1, 2, 3, 4, 5, 6], ([kc954, kc218, kc990, kc991], kb86, [([(4, (-1)), (3, 1)], 0), ([(45, (-1)), (3, 1)], 0), ([(45, 1), (4, (-1))], 0)], [kR 0, kR 3, kI 0, kI 1, kIc 14, kIc 14, kIc 14], 25), ([], 10))
def xq_581_58 : xCu := (29, [0, 1, 2, 3, 4, 5, 6], ([kc954, kc218, kc990, kc991], kb86, [([(4, (-1)), (3, 1)], 0), ([(45, (-1)), (3, 1)], 0), ([(45, 1), (4, (-1))], 0)], [kR 0, kR 3, kI 0, kI 1, kIc 13, kIc 13, kIc 13], 25), ([], 11))
def xq_581_59 : xCu := (29, [0, 1, 2, 3, 4, 5, 6], ([kc954, kc218, kc990, kc991], kb86, [([(4, (-1)), (3, 1)], 0), ([(45, (-1)), (3, 1)], 0), ([(45, 1), (4, (-1))], 0)], [kR 0, kR 3, kI 0, kI 1, kIc 12, kIc 12, kIc 12], 25), ([], 12))
def xq_581_60 : xCu := (29, [0, 1, 2, 3, 4, 5, 6], ([kc954, kc218, kc990, kc991], kb86, [([(4, (-1)), (3, 1)], 0), ([(45, (-1)), (3, 1)], 0), ([(45, 1), (4, (-1))], 0)], [kR 0, kR 3, kI 0, kI 1, kIc 11, kIc 11, kIc 11], 25), ([], 13))
def xq_581_61 : xCu := (29, [0, 1, 2, 3, 4, 5, 6], ([kc954, kc218, kc990, kc991], kb86, [([(4, (-1)), (3, 1)], 0), ([(45, (-1)), (3, 1)], 0), ([(45, 1), (4, (-1))], 0)], [kR 0, kR 3, kI 0, kI 1, kIc 10, kIc 10, kIc 10], 25), ([], 14))
def xq_581_62 : xCu := (29, [0, 1, 2, 3, 4, 5, 6], ([kc954, kc218, kc990, kc991], kb86, [([(4, (-1)), (3, 1)], 0), ([(45, (-1)), (3, 1)], 0), ([(45, 1), (4, (-1))], 0)], [kR 0, kR 3, kI 0, kI 1, kIc 9, kIc 9, kIc 9], 25), ([], 15))
def xq_581_63 : xCu := (29, [0, 1, 2, 3, 4, 5, 6], ([kc954, kc218, kc990, kc991], kb86, [([(4, (-1)), (3, 1)], 0), ([(45, (-1)), (3, 1)], 0), ([(45, 1), (4, (-1))], 0)], [kR 0, kR 3, kI 0, kI 1, kIc 8, kIc 8, kIc 8], 25), ([], 16))
def xq_581_64 : xCu := (29, [0, 1, 2, 3, 4, 5, 6], ([kc954, kc218, kc990, kc991], kb86, [([(4, (-1)), (3, 1)], 0), ([(45, (-1)), (3, 1)], 0), ([(45, 1), (4, (-1))], 0)], [kR 0, kR 3, kI 0, kI 1, kIc 7, kIc 7, kIc 7], 25), ([], 17))
def xq_581_65 : xCu := (29, [0, 1, 2, 3, 4, 5, 6], ([kc954, kc218, kc990, kc991], kb86, [([(4, (-1)), (3, 1)], 0), ([(45, (-1)), (3, 1)], 0), ([(45, 1), (4, (-1))], 0)], [kR 0, kR 3, kI 0, kI 1, kIc 6, kIc 6, kIc 6], 25), ([], 18))
def xq_581_66 : xCu := (29, [0, 1, 2, 3, 4, 5, 6], ([kc954, kc218, kc990, kc991], kb86, [([(4, (-1)), (3, 1)], 0), ([(45, (-1)), (3, 1)], 0), ([(45, 1), (4, (-1))], 0)], [kR 0, kR 3, kI 0, kI 1, kIc 5, kIc 5, kIc 5], 25), ([], 19))
def xq_581_67 : xCu := (29, [0, 1, 2, 3, 4, 5, 6], ([kc954, kc218, kc990, kc991], kb86, [([(4, (-1)), (3, 1)], 0), ([(45, (-1)), (3, 1)], 0), ([(45, 1), (4, (-1))], 0)], [kR 0, kR 3, kI 0, kI 1, kIc 4, kIc 4, kIc 4], 25), ([], 20))
def xq_581_68 : xCu := (29, [0, 1, 2, 3, 4, 5, 6], ([kc954, kc218, kc990, kc991], kb86, [([(4, (-1)), (3, 1)], 0), ([(45, (-1)), (3, 1)], 0), ([(45, 1), (4, (-1))], 0)], [kR 0, kR 3, kI 0, kI 1, kIc 3, kIc 3, kIc 3], 25), ([], 21))
def xq_581_69 : xCu := (29, [0, 1, 2, 3, 4, 5, 6], ([kc954, kc218, kc990, kc991], kb86, [([(4, (-1)), (3, 1)], 0), ([(45, (-1)), (3, 1)], 0), ([(45, 1), (4, (-1))], 0)], [kR 0, kR 3, kI 0, kI 1, kIc 2, kIc 2, kIc 2], 25), ([], 22))
def xq_581_70 : xCu := (29, [0, 1, 2, 3, 4, 5, 6], ([kc954, kc218, kc990, kc991], kb86, [([(4, (-1)), (3, 1)], 0), ([(45, (-1)), (3, 1)], 0), ([(45, 1), (4, (-1))], 0)], [kR 0, kR 3, kI 0, kI 1, kIc 1, kIc 1, kIc 1], 25), ([], 23))
def xq_581_71 : xCu := (29, [0, 1, 2, 3, 4, 5, 6], ([kc954, kc218, kc990, kc991], kb86, [([(4, (-1)), (3, 1)], 0), ([(45, (-1)), (3, 1)], 0), ([(45, 1), (4, (-1))], 0)], [kR 0, kR 3, kI 0, kI 1, kIc 0, kIc 0, kIc 0], 25), ([], 24))
def xq_581_72 : xCu := (29, [0, 1, 2, 3, 4, 5, 6], ([kc986, kc218, kc990, kc1040], kb113, [([(4, (-1)), (3, 1)], 0), ([(46, (-1)), (3, 1)], 0), ([(46, 1), (4, (-1))], (-1))], [kR 0, kR 3, kI 0, kI 1, kI 45, kIc 23, kIc 24], 25), ([], 0))
def xq_581_73 : xCu := (29, [0, 1, 2, 3, 4, 5, 6], ([kc988, kc218, kc990, kc1040], kb137, [([(4, (-1)), (3, 1)], 0), ([(46, (-1)), (3, 1)], 0), ([(46, 1), (4, (-1))], 0)], [kR 0, kR 3, kI 0, kI 1, kI 45, kIc 23, kIc 24], 25), ([], 0))
def xc_581 : xCt := (([kc960, kc218, kc990, kc991], kb89, [([(4, (-1)), (3, 1)], 0)], [kR 0, kR 3, kI 0, kI 1], 25), [xe_581_0, xe_581_1, xe_581_2], 5)
def xu_581 : List xCu := [xq_581_0,
  xq_581_1,
  xq_581_2,
  xq_581_3,
  xq_581_4,
  xq_581_5,
  xq_581_6,
  xq_581_7,
  xq_581_8,
  xq_581_9,
  xq_581_10,
  xq_581_11,
  xq_581_12,
  xq_581_13,
  xq_581_14,
  xq_581_15,
  xq_581_16,
  xq_581_17,
  xq_581_18,
  xq_581_19,
  xq_581_20,
  xq_581_21,
  xq_581_22,
  xq_581_23,
  xq_581_24,
  xq_581_25,
  xq_581_26,
  xq_581_27,
  xq_581_28,
  xq_581_29,
  xq_581_30,
  xq_581_31,
  xq_581_32,
  xq_581_33,
  xq_581_34,
  xq_581_35,
  xq_581_36,
  xq_581_37,
  xq_581_38,
  xq_581_39,
  xq_581_40,
  xq_581_41,
  xq_581_42,
  xq_581_43,
  xq_581_44,
  xq_581_45,
  xq_581_46,
  xq_581_47,
  xq_581_48,
  xq_581_49,
  xq_581_50,
  xq_581_51,
  xq_581_52,
  xq_581_53,
  xq_581_54,
  xq_581_55,
  xq_581_56,
  xq_581_57,
  xq_581_58,
  xq_581_59,
  xq_581_60,
  xq_581_61,
  xq_581_62,
  xq_581_63,
  xq_581_64,
  xq_581_65,
  xq_581_66,
  xq_581_67,
  xq_581_68,
  xq_581_69,
  xq_581_70,
  xq_581_71,
  xq_581_72,
  xq_581_73]
def xT_581 : List (Nat × xCt) := [(201, xc_574)]
theorem xn_581 : Nat.ble (xsum xc_581.1.2.2.2.1) xm_X10_spanLine.nl = true := by decide +kernel
theorem xv_581_0 : xStP xT_581 xHt 100000 209 xm_X10_spanLine xc_581 xu_581 [] 0 18 = true := by
  rw [← zStP_eq]
  decide +kernel
theorem xv_581_18 : xStP xT_581 xHt 100000 209 xm_X10_spanLine xc_581 xu_581 [] 18 18 = true := by
  rw [← zStP_eq]
  decide +kernel
theorem xv_581_36 : xStP xT_581 xHt 100000 209 xm_X10_spanLine xc_581 xu_581 [] 36 18 = true := by
  rw [← zStP_eq]
  decide +kernel
theorem xv_581_54 : xStP xT_581 xHt 100000 209 xm_X10_spanLine xc_581 xu_581 [] 54 18 = true := by
  rw [← zStP_eq]
  decide +kernel
theorem xv_581_72 : xStP xT_581 xHt 100000 209 xm_X10_spanLine xc_581 xu_581 [] 72 18 = true := by
  rw [← zStP_eq]
  decide +kernel
theorem xv_581_90 : xStP xT_581 xHt 100000 209 xm_X10_spanLine xc_581 xu_581 [] 90 18 = true := by
  rw [← zStP_eq]
  decide +kernel
theorem xv_581_108 : xStP xT_581 xHt 100000 209 xm_X10_spanLine xc_581 xu_581 [] 108 18 = true := by
  rw [← zStP_eq]
  decide +kernel
theorem xv_581_126 : xStP xT_581 xHt 100000 209 xm_X10_spanLine xc_581 xu_581 [] 126 18 = true := by
  rw [← zStP_eq]
  decide +kernel
theorem xv_581_144 : xStP xT_581 xHt 100000 209 xm_X10_spanLine xc_581 xu_581 [] 144 18 = true := by
  rw [← zStP_eq]
  decide +kernel
theorem xz_581 : xStL xT_581 xHt 100000 209 xm_X10_spanLine xc_581 xu_581 162 = true := by
  rw [← zStL_eq]
  decide +kernel
theorem xw_581_0 : ((xu_581.drop 0).take 1).all (xVerCs xT_581 xHt 100000 209 xm_X10_spanLine xc_581 xu_581 [2] [72]) = true := by
  rw [← zVerCs_eq]
  decide +kernel
theorem xw_581_1 : ((xu_581.drop 1).take 1).all (xVerCs xT_581 xHt 100000 209 xm_X10_spanLine xc_581 xu_581 [2] [0]) = true := by
  rw [← zVerCs_eq]
  decide +kernel
theorem xw_581_2 : ((xu_581.drop 2).take 1).all (xVerCs xT_581 xHt 100000 209 xm_X10_spanLine xc_581 xu_581 [2] [1]) = true := by
  rw [← zVerCs_eq]
  decide +kernel
theorem xw_581_3 : ((xu_581.drop 3).take 1).all (xVerCs xT_581 xHt 100000 209 xm_X10_spanLine xc_581 xu_581 [2] [2]) = true := by
  rw [← zVerCs_eq]
  decide +kernel
theorem xw_581_4 : ((xu_581.drop 4).take 1).all (xVerCs xT_581 xHt 100000 209 xm_X10_spanLine xc_581 xu_581 [2] [3]) = true := by
  rw [← zVerCs_eq]
  decide +kernel
theorem xw_581_5 : ((xu_581.drop 5).take 1).all (xVerCs xT_581 xHt 100000 209 xm_X10_spanLine xc_581 xu_581 [2] [4]) = true := by
  rw [← zVerCs_eq]
  decide +kernel
theorem xw_581_6 : ((xu_581.drop 6).take 1).all (xVerCs xT_581 xHt 100000 209 xm_X10_spanLine xc_581 xu_581 [2] [5]) = true := by
  rw [← zVerCs_eq]
  decide +kernel
theorem xw_581_7 : ((xu_581.drop 7).take 1).all (xVerCs xT_581 xHt 100000 209 xm_X10_spanLine xc_581 xu_581 [2] [6]) = true := by
  rw [← zVerCs_eq]
  decide +kernel
theorem xw_581_8 : ((xu_581.drop 8).take 1).all (xVerCs xT_581 xHt 100000 209 xm_X10_spanLine xc_581 xu_581 [2] [7]) = true := by
  rw [← zVerCs_eq]
  decide +kernel
theorem xw_581_9 : ((xu_581.drop 9).take 1).all (xVerCs xT_581 xHt 100000 209 xm_X10_spanLine xc_581 xu_581 [2] [8]) = true := by
  rw [← zVerCs_eq]
  decide +kernel
theorem xw_581_10 : ((xu_581.drop 10).take 1).all (xVerCs xT_581 xHt 100000 209 xm_X10_spanLine xc_581 xu_581 [2] [9]) = true := by
  rw [← zVerCs_eq]
  decide +kernel
theorem xw_581_11 : ((xu_581.drop 11).take 1).all (xVerCs xT_581 xHt 100000 209 xm_X10_spanLine xc_581 xu_581 [2] [10]) = true := by
  rw [← zVerCs_eq]
  decide +kernel
theorem xw_581_12 : ((xu_581.drop 12).take 1).all (xVerCs xT_581 xHt 100000 209 xm_X10_spanLine xc_581 xu_581 [2] [11]) = true := by
  rw [← zVerCs_eq]
  decide +kernel
theorem xw_581_13 : ((xu_581.drop 13).take 1).all (xVerCs xT_581 xHt 100000 209 xm_X10_spanLine xc_581 xu_581 [2] [12]) = true := by
  rw [← zVerCs_eq]
  decide +kernel
theorem xw_581_14 : ((xu_581.drop 14).take 1).all (xVerCs xT_581 xHt 100000 209 xm_X10_spanLine xc_581 xu_581 [2] [13]) = true := by
  rw [← zVerCs_eq]
  decide +kernel
theorem xw_581_15 : ((xu_581.drop 15).take 1).all (xVerCs xT_581 xHt 100000 209 xm_X10_spanLine xc_581 xu_581 [2] [14]) = true := by
  rw [← zVerCs_eq]
  decide +kernel
theorem xw_581_16 : ((xu_581.drop 16).take 1).all (xVerCs xT_581 xHt 100000 209 xm_X10_spanLine xc_581 xu_581 [2] [15]) = true := by
  rw [← zVerCs_eq]
  decide +kernel
theorem xw_581_17 : ((xu_581.drop 17).take 1).all (xVerCs xT_581 xHt 100000 209 xm_X10_spanLine xc_581 xu_581 [2] [16]) = true := by
  rw [← zVerCs_eq]
  decide +kernel
theorem xw_581_18 : ((xu_581.drop 18).take 1).all (xVerCs xT_581 xHt 100000 209 xm_X10_spanLine xc_581 xu_581 [2] [17]) = true := by
  rw [← zVerCs_eq]
  decide +kernel
theorem xw_581_19 : ((xu_581.drop 19).take 1).all (xVerCs xT_581 xHt 100000 209 xm_X10_spanLine xc_581 xu_581 [2] [18]) = true := by
  rw [← zVerCs_eq]
  decide +kernel
theorem xw_581_20 : ((xu_581.drop 20).take 1).all (xVerCs xT_581 xHt 100000 209 xm_X10_spanLine xc_581 xu_581 [2] [19]) = true := by
  rw [← zVerCs_eq]
  decide +kernel
theorem xw_581_21 : ((xu_581.drop 21).take 1).all (xVerCs xT_581 xHt 100000 209 xm_X10_spanLine xc_581 xu_581 [2] [20]) = true := by
  rw [← zVerCs_eq]
  decide +kernel
theorem xw_581_22 : ((xu_581.drop 22).take 1).all (xVerCs xT_581 xHt 100000 209 xm_X10_spanLine xc_581 xu_581 [2] [21]) = true := by
  rw [← zVerCs_eq]
  decide +kernel
theorem xw_581_23 : ((xu_581.drop 23).take 1).all (xVerCs xT_581 xHt 100000 209 xm_X10_spanLine xc_581 xu_581 [] [22]) = true := by
  rw [← zVerCs_eq]
  decide +kernel
theorem xw_581_24 : ((xu_581.drop 24).take 1).all (xVerCs xT_581 xHt 100000 209 xm_X10_spanLine xc_581 xu_581 [1] [73]) = true := by
  rw [← zVerCs_eq]
  decide +kernel
theorem xw_581_25 : ((xu_581.drop 25).take 1).all (xVerCs xT_581 xHt 100000 209 xm_X10_spanLine xc_581 xu_581 [1] [24]) = true := by
  rw [← zVerCs_eq]
  decide +kernel
theorem xw_581_26 : ((xu_581.drop 26).take 1).all (xVerCs xT_581 xHt 100000 209 xm_X10_spanLine xc_581 xu_581 [1] [25]) = true := by
  rw [← zVerCs_eq]
  decide +kernel
theorem xw_581_27 : ((xu_581.drop 27).take 1).all (xVerCs xT_581 xHt 100000 209 xm_X10_spanLine xc_581 xu_581 [1] [26]) = true := by
  rw [← zVerCs_eq]
  decide +kernel
theorem xw_581_28 : ((xu_581.drop 28).take 1).all (xVerCs xT_581 xHt 100000 209 xm_X10_spanLine xc_581 xu_581 [1] [27]) = true := by
  rw [← zVerCs_eq]
  decide +kernel
theorem xw_581_29 : ((xu_581.drop 29).take 1).all (xVerCs xT_581 xHt 100000 209 xm_X10_spanLine xc_581 xu_581 [1] [28]) = true := by
  rw [← zVerCs_eq]
  decide +kernel
theorem xw_581_30 : ((xu_581.drop 30).take 1).all (xVerCs xT_581 xHt 100000 209 xm_X10_spanLine xc_581 xu_581 [1] [29]) = true := by
  rw [← zVerCs_eq]
  decide +kernel
theorem xw_581_31 : ((xu_581.drop 31).take 1).all (xVerCs xT_581 xHt 100000 209 xm_X10_spanLine xc_581 xu_581 [1] [30]) = true := by
  rw [← zVerCs_eq]
  decide +kernel
theorem xw_581_32 : ((xu_581.drop 32).take 1).all (xVerCs xT_581 xHt 100000 209 xm_X10_spanLine xc_581 xu_581 [1] [31]) = true := by
  rw [← zVerCs_eq]
  decide +kernel
theorem xw_581_33 : ((xu_581.drop 33).take 1).all (xVerCs xT_581 xHt 100000 209 xm_X10_spanLine xc_581 xu_581 [1] [32]) = true := by
  rw [← zVerCs_eq]
  decide +kernel
theorem xw_581_34 : ((xu_581.drop 34).take 1).all (xVerCs xT_581 xHt 100000 209 xm_X10_spanLine xc_581 xu_581 [1] [33]) = true := by
  rw [← zVerCs_eq]
  decide +kernel
theorem xw_581_35 : ((xu_581.drop 35).take 1).all (xVerCs xT_581 xHt 100000 209 xm_X10_spanLine xc_581 xu_581 [1] [34]) = true := by
  rw [← zVerCs_eq]
  decide +kernel
theorem xw_581_36 : ((xu_581.drop 36).take 1).all (xVerCs xT_581 xHt 100000 209 xm_X10_spanLine xc_581 xu_581 [1] [35]) = true := by
  rw [← zVerCs_eq]
  decide +kernel
theorem xw_581_37 : ((xu_581.drop 37).take 1).all (xVerCs xT_581 xHt 100000 209 xm_X10_spanLine xc_581 xu_581 [1] [36]) = true := by
  rw [← zVerCs_eq]
  decide +kernel
theorem xw_581_38 : ((xu_581.drop 38).take 1).all (xVerCs xT_581 xHt 100000 209 xm_X10_spanLine xc_581 xu_581 [1] [37]) = true := by
  rw [← zVerCs_eq]
  decide +kernel
theorem xw_581_39 : ((xu_581.drop 39).take 1).all (xVerCs xT_581 xHt 100000 209 xm_X10_spanLine xc_581 xu_581 [1] [38]) = true := by
  rw [← zVerCs_eq]
  decide +kernel
theorem xw_581_40 : ((xu_581.drop 40).take 1).all (xVerCs xT_581 xHt 100000 209 xm_X10_spanLine xc_581 xu_581 [1] [39]) = true := by
  rw [← zVerCs_eq]
  decide +kernel
theorem xw_581_41 : ((xu_581.drop 41).take 1).all (xVerCs xT_581 xHt 100000 209 xm_X10_spanLine xc_581 xu_581 [1] [40]) = true := by
  rw [← zVerCs_eq]
  decide +kernel
theorem xw_581_42 : ((xu_581.drop 42).take 1).all (xVerCs xT_581 xHt 100000 209 xm_X10_spanLine xc_581 xu_581 [1] [41]) = true := by
  rw [← zVerCs_eq]
  decide +kernel
theorem xw_581_43 : ((xu_581.drop 43).take 1).all (xVerCs xT_581 xHt 100000 209 xm_X10_spanLine xc_581 xu_581 [1] [42]) = true := by
  rw [← zVerCs_eq]
  decide +kernel
theorem xw_581_44 : ((xu_581.drop 44).take 1).all (xVerCs xT_581 xHt 100000 209 xm_X10_spanLine xc_581 xu_581 [1] [43]) = true := by
  rw [← zVerCs_eq]
  decide +kernel
theorem xw_581_45 : ((xu_581.drop 45).take 1).all (xVerCs xT_581 xHt 100000 209 xm_X10_spanLine xc_581 xu_581 [1] [44]) = true := by
  rw [← zVerCs_eq]
  decide +kernel
theorem xw_581_46 : ((xu_581.drop 46).take 1).all (xVerCs xT_581 xHt 100000 209 xm_X10_spanLine xc_581 xu_581 [1] [45]) = true := by
  rw [← zVerCs_eq]
  decide +kernel
theorem xw_581_47 : ((xu_581.drop 47).take 1).all (xVerCs xT_581 xHt 100000 209 xm_X10_spanLine xc_581 xu_581 [] [46]) = true := by
  rw [← zVerCs_eq]
  decide +kernel
theorem xw_581_48 : ((xu_581.drop 48).take 1).all (xVerCs xT_581 xHt 100000 209 xm_X10_spanLine xc_581 xu_581 [0] []) = true := by
  rw [← zVerCs_eq]
  decide +kernel
theorem xw_581_49 : ((xu_581.drop 49).take 1).all (xVerCs xT_581 xHt 100000 209 xm_X10_spanLine xc_581 xu_581 [0] []) = true := by
  rw [← zVerCs_eq]
  decide +kernel
theorem xw_581_50 : ((xu_581.drop 50).take 1).all (xVerCs xT_581 xHt 100000 209 xm_X10_spanLine xc_581 xu_581 [0] []) = true := by
  rw [← zVerCs_eq]
  decide +kernel
theorem xw_581_51 : ((xu_581.drop 51).take 1).all (xVerCs xT_581 xHt 100000 209 xm_X10_spanLine xc_581 xu_581 [0] []) = true := by
  rw [← zVerCs_eq]
  decide +kernel
theorem xw_581_52 : ((xu_581.drop 52).take 1).all (xVerCs xT_581 xHt 100000 209 xm_X10_spanLine xc_581 xu_581 [0] []) = true := by
  rw [← zVerCs_eq]
  decide +kernel
theorem xw_581_53 : ((xu_581.drop 53).take 1).all (xVerCs xT_581 xHt 100000 209 xm_X10_spanLine xc_581 xu_581 [0] []) = true := by
  rw [← zVerCs_eq]
  decide +kernel
theorem xw_581_54 : ((xu_581.drop 54).take 1).all (xVerCs xT_581 xHt 100000 209 xm_X10_spanLine xc_581 xu_581 [0] []) = true := by
  rw [← zVerCs_eq]
  decide +kernel
theorem xw_581_55 : ((xu_581.drop 55).take 1).all (xVerCs xT_581 xHt 100000 209 xm_X10_spanLine xc_581 xu_581 [0] []) = true := by
  rw [← zVerCs_eq]
  decide +kernel
theorem xw_581_56 : ((xu_581.drop 56).take 1).all (xVerCs xT_581 xHt 100000 209 xm_X10_spanLine xc_581 xu_581 [0] []) = true := by
  rw [← zVerCs_eq]
  decide +kernel
theorem xw_581_57 : ((xu_581.drop 57).take 1).all (xVerCs xT_581 xHt 100000 209 xm_X10_spanLine xc_581 xu_581 [0] []) = true := by
  rw [← zVerCs_eq]
  decide +kernel
theorem xw_581_58 : ((xu_581.drop 58).take 1).all (xVerCs xT_581 xHt 100000 209 xm_X10_spanLine xc_581 xu_581 [0] []) = true := by
  rw [← zVerCs_eq]
  decide +kernel
theorem xw_581_59 : ((xu_581.drop 59).take 1).all (xVerCs xT_581 xHt 100000 209 xm_X10_spanLine xc_581 xu_581 [0] []) = true := by
  rw [← zVerCs_eq]
  decide +kernel
theorem xw_581_60 : ((xu_581.drop 60).take 1).all (xVerCs xT_581 xHt 100000 209 xm_X10_spanLine xc_581 xu_581 [0] []) = true := by
  rw [← zVerCs_eq]
  decide +kernel
theorem xw_581_61 : ((xu_581.drop 61).take 1).all (xVerCs xT_581 xHt 100000 209 xm_X10_spanLine xc_581 xu_581 [0] []) = true := by
  rw [← zVerCs_eq]
  decide +kernel
theorem xw_581_62 : ((xu_581.drop 62).take 1).all (xVerCs xT_581 xHt 100000 209 xm_X10_spanLine xc_581 xu_581 [0] []) = true := by
  rw [← zVerCs_eq]
  decide +kernel
theorem xw_581_63 : ((xu_581.drop 63).take 1).all (xVerCs xT_581 xHt 100000 209 xm_X10_spanLine xc_581 xu_581 [0] []) = true := by
  rw [← zVerCs_eq]
  decide +kernel
theorem xw_581_64 : ((xu_581.drop 64).take 1).all (xVerCs xT_581 xHt 100000 209 xm_X10_spanLine xc_581 xu_581 [0] []) = true := by
  rw [← zVerCs_eq]
  decide +kernel
theorem xw_581_65 : ((xu_581.drop 65).take 1).all (xVerCs xT_581 xHt 100000 209 xm_X10_spanLine xc_581 xu_581 [0] []) = true := by
  rw [← zVerCs_eq]
  decide +kernel
theorem xw_581_66 : ((xu_581.drop 66).take 1).all (xVerCs xT_581 xHt 100000 209 xm_X10_spanLine xc_581 xu_581 [0] []) = true := by
  rw [← zVerCs_eq]
  decide +kernel
theorem xw_581_67 : ((xu_581.drop 67).take 1).all (xVerCs xT_581 xHt 100000 209 xm_X10_spanLine xc_581 xu_581 [0] []) = true := by
  rw [← zVerCs_eq]
  decide +kernel
theorem xw_581_68 : ((xu_581.drop 68).take 1).all (xVerCs xT_581 xHt 100000 209 xm_X10_spanLine xc_581 xu_581 [0] []) = true := by
  rw [← zVerCs_eq]
  decide +kernel
theorem xw_581_69 : ((xu_581.drop 69).take 1).all (xVerCs xT_581 xHt 100000 209 xm_X10_spanLine xc_581 xu_581 [0] []) = true := by
  rw [← zVerCs_eq]
  decide +kernel
theorem xw_581_70 : ((xu_581.drop 70).take 1).all (xVerCs xT_581 xHt 100000 209 xm_X10_spanLine xc_581 xu_581 [0] []) = true := by
  rw [← zVerCs_eq]
  decide +kernel
theorem xw_581_71 : ((xu_581.drop 71).take 1).all (xVerCs xT_581 xHt 100000 209 xm_X10_spanLine xc_581 xu_581 [0] []) = true := by
  rw [← zVerCs_eq]
  decide +kernel
theorem xw_581_72 : ((xu_581.drop 72).take 1).all (xVerCs xT_581 xHt 100000 209 xm_X10_spanLine xc_581 xu_581 [2] []) = true := by
  rw [← zVerCs_eq]
  decide +kernel
theorem xw_581_73 : ((xu_581.drop 73).take 1).all (xVerCs xT_581 xHt 100000 209 xm_X10_spanLine xc_581 xu_581 [1] []) = true := by
  rw [← zVerCs_eq]
  decide +kernel
theorem xok_581 (l : Launch) : xCk l 209 xc_581 := ⟨xm_X10_spanLine, rfl, xVer_ok xk_all (xHt_ok l) (T := xT_581) (xTc (xok_574 l) (xTn l)) rfl (f := 100000) (cuts := xu_581) (xStE (es := []) xn_581 (xStS xv_581_0 (xStS xv_581_18 (xStS xv_581_36 (xStS xv_581_54 (xStS xv_581_72 (xStS xv_581_90 (xStS xv_581_108 (xStS xv_581_126 (xStS xv_581_144 (xStZ xz_581))))))))))) (xAll0 (xAllS 0 1 (xAllCs xw_581_0) (xAllS 1 1 (xAllCs xw_581_1) (xAllS 2 1 (xAllCs xw_581_2) (xAllS 3 1 (xAllCs xw_581_3) (xAllS 4 1 (xAllCs xw_581_4) (xAllS 5 1 (xAllCs xw_581_5) (xAllS 6 1 (xAllCs xw_581_6) (xAllS 7 1 (xAllCs xw_581_7) (xAllS 8 1 (xAllCs xw_581_8) (xAllS 9 1 (xAllCs xw_581_9) (xAllS 10 1 (xAllCs xw_581_10) (xAllS 11 1 (xAllCs xw_581_11) (xAllS 12 1 (xAllCs xw_581_12) (xAllS 13 1 (xAllCs xw_581_13) (xAllS 14 1 (xAllCs xw_581_14) (xAllS 15 1 (xAllCs xw_581_15) (xAllS 16 1 (xAllCs xw_581_16) (xAllS 17 1 (xAllCs xw_581_17) (xAllS 18 1 (xAllCs xw_581_18) (xAllS 19 1 (xAllCs xw_581_19) (xAllS 20 1 (xAllCs xw_581_20) (xAllS 21 1 (xAllCs xw_581_21) (xAllS 22 1 (xAllCs xw_581_22) (xAllS 23 1 (xAllCs xw_581_23) (xAllS 24 1 (xAllCs xw_581_24) (xAllS 25 1 (xAllCs xw_581_25) (xAllS 26 1 (xAllCs xw_581_26) (xAllS 27 1 (xAllCs xw_581_27) (xAllS 28 1 (xAllCs xw_581_28) (xAllS 29 1 (xAllCs xw_581_29) (xAllS 30 1 (xAllCs xw_581_30) (xAllS 31 1 (xAllCs xw_581_31) (xAllS 32 1 (xAllCs xw_581_32) (xAllS 33 1 (xAllCs xw_581_33) (xAllS 34 1 (xAllCs xw_581_34) (xAllS 35 1 (xAllCs xw_581_35) (xAllS 36 1 (xAllCs xw_581_36) (xAllS 37 1 (xAllCs xw_581_37) (xAllS 38 1 (xAllCs xw_581_38) (xAllS 39 1 (xAllCs xw_581_39) (xAllS 40 1 (xAllCs xw_581_40) (xAllS 41 1 (xAllCs xw_581_41) (xAllS 42 1 (xAllCs xw_581_42) (xAllS 43 1 (xAllCs xw_581_43) (xAllS 44 1 (xAllCs xw_581_44) (xAllS 45 1 (xAllCs xw_581_45) (xAllS 46 1 (xAllCs xw_581_46) (xAllS 47 1 (xAllCs xw_581_47) (xAllS 48 1 (xAllCs xw_581_48) (xAllS 49 1 (xAllCs xw_581_49) (xAllS 50 1 (xAllCs xw_581_50) (xAllS 51 1 (xAllCs xw_581_51) (xAllS 52 1 (xAllCs xw_581_52) (xAllS 53 1 (xAllCs xw_581_53) (xAllS 54 1 (xAllCs xw_581_54) (xAllS 55 1 (xAllCs xw_581_55) (xAllS 56 1 (xAllCs xw_581_56) (xAllS 57 1 (xAllCs xw_581_57) (xAllS 58 1 (xAllCs xw_581_58) (xAllS 59 1 (xAllCs xw_581_59) (xAllS 60 1 (xAllCs xw_581_60) (xAllS 61 1 (xAllCs xw_581_61) (xAllS 62 1 (xAllCs xw_581_62) (xAllS 63 1 (xAllCs xw_581_63) (xAllS 64 1 (xAllCs xw_581_64) (xAllS 65 1 (xAllCs xw_581_65) (xAllS 66 1 (xAllCs xw_581_66) (xAllS 67 1 (xAllCs xw_581_67) (xAllS 68 1 (xAllCs xw_581_68) (xAllS 69 1 (xAllCs xw_581_69) (xAllS 70 1 (xAllCs xw_581_70) (xAllS 71 1 (xAllCs xw_581_71) (xAllS 72 1 (xAllCs xw_581_72) (xAllS 73 1 (xAllCs xw_581_73) (xAllZ (by decide +kernel)))))))))))))))))))))))))))))))))))))))))))))))))))))))))))))))))))))))))))))⟩
