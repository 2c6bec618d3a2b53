/-! The law of this claim: the pattern of its loop, the groups, its contracts. Printed by a program. -/
def kc1380 : xC := kO 9 [kR 1, kI 1, kR 2, kR 14, kR 26, kR 27, kI 2, kR 64, kR 73, kR 82, kR 85, kR 87, kR 90, kR 92]
def kc1381 : xC := kO 2 [kI 3, kI 4, kR 3, kR 4, kR 5, kR 6, kR 7, kR 8, kR 9, kR 10, kI 5, kR 11, kR 12, kR 13, kI 6]
def kc1382 : xC := kO 3 [kR 1, kI 13, kI 14, kI 15, kI 16, kI 17, kI 18, kI 19, kI 20, kI 21, kI 22]
def kc1383 : xC := kQr 2 [some 28, some 40, some 52]
def kc1384 : xC := kO 2 [kI 23, kI 24, kR 29, kR 30, kR 31, kR 32, kR 33, kR 34, kR 35, kR 36, kI 25, kR 37, kR 38, kR 39, kI 26]
def kc1385 : xC := kAr 0 6 [(1, kS 27), (5, kB3)]
def kc1386 : xC := kO 2 [kI 28, kI 29, kR 41, kR 42, kR 43, kR 44, kR 45, kR 46, kR 47, kR 48, kI 30, kR 49, kR 50, kR 51, kI 31]
def kc1387 : xC := kO 2 [kI 33, kI 34, kR 53, kR 54, kR 55, kR 56, kR 57, kR 58, kR 59, kR 60, kI 35, kR 61, kR 62, kR 63, kI 36]
def kc1388 : xC := kAr 0 6 [(1, kS 37), (5, kB3)]
def kc1389 : xC := kQr 4 [some 65, some 67, some 69, some 71]
def kc1390 : xC := kO 4 [kI 38, kI 39, kR 66]
def kc1391 : xC := kO 4 [kI 40, kI 41, kR 68]
def kc1392 : xC := kO 4 [kI 42, kI 43, kR 70]
def kc1393 : xC := kO 4 [kI 44, kI 45, kR 72]
def kc1394 : xC := kO 6 [kR 2, kR 74, kR 75, kR 76, kR 77, kI 46, kI 47, kR 78, kR 79, kR 80, kR 81]
def kc1395 : xC := kO 5 [kR 2, kR 73, kR 83, kR 84, kI 48, kI 49, kI 50, kI 51]
def kc1396 : xC := kO 1 [kR 2, kR 73, kR 86, kI 52, kI 53]
def kc1397 : xC := kO 0 [kR 2, kR 73, kR 88, kR 89, kJ 54]
def kc1398 : xC := kO 7 [kR 2, kR 73, kI 55, kI 56, kI 57, kI 58, kI 59, kR 91]
def kc1399 : xC := kO 8 [kR 2, kR 73, kJ 60, kJ 61]
def kc1400 : xC := kO 10 [kI 62, kR 94, kR 95, kR 96, kR 97, kR 98, kI 63, kI 64, kI 65, kI 66, kI 67, kJ 68, kI 69, kI 70, kI 71, kI 72, kR 99, kR 100, kR 101, kR 102, kR 103, kR 104, kR 105, kR 106, kI 73, kI 74, kI 75, kI 76, kI 77, kI 78, kI 79, kR 107, kR 108, kR 109, kR 110, kR 111, kR 112, kR 113, kI 80, kR 114, kR 115, kI 81, kI 82, kI 83, kR 116, kR 117, kR 118, kR 119, kR 120, kI 84, kI 85, kI 86, kI 87, kI 88, kI 89, kR 121]
def kc1401 : xC := kAr 0 4 [(1, kS 90), (1, kS 91), (1, kS 92), (1, kS 93)]
def kc1402 : xC := kAr 0 4 [(1, kS 94), (1, kS 95), (1, kS 96), (1, kS 97)]
def kc1403 : xC := kAr 0 5 [(4, kB3), (1, kS 98)]
def kc1404 : xC := kAr 0 55 [(1, kS 99), (5, kB3), (1, kS 100), (1, kS 101), (3, kB3), (1, kS 102), (5, kB3), (1, kS 103), (1, kS 104), (3, kB3), (1, kS 105), (5, kB3), (1, kS 106), (1, kS 107), (3, kB3), (1, kS 108), (5, kB3), (1, kS 109), (1, kS 110), (3, kB3), (1, kS 111), (5, kB3), (1, kS 112), (1, kS 113), (1, kS 114), (1, kS 115), (1, kB3)]
def lp_P0 : xPt := ([kc1380, kc218, kc1381, kc36, kc13, kc20, kc31, kc14, kc21, kc22, kc23, kc15, kc4, kc5, kc500, kc501, kc13, kc20, kc31, kc14, kc21, kc22, kc23, kc15, kc4, kc5, kc1382, kc1383, kc1384, kc1385, kc13, kc20, kc31, kc14, kc21, kc22, kc23, kc15, kc4, kc5, kc1386, kc424, kc13, kc20, kc31, kc14, kc21, kc22, kc23, kc15, kc4, kc5, kc1387, kc1388, kc13, kc20, kc31, kc14, kc21, kc22, kc23, kc15, kc4, kc5, kc1389, kc1390, kc2, kc1391, kc2, kc1392, kc2, kc1393, kc2, kc1394, kc14, kc14, kc16, kc0, kc28, kc23, kc23, kc14, kc1395, kc14, kc14, kc1396, kc14, kc1397, kc1, kc1, kc1398, kc23, kc1399, kc1400, kc1401, kc1402, kc715, kc2, kc218, kc1403, kc1404, kc527, kc536, kc537, kc538, kc540, kc1325, kc13, kc528, kc16, kc16, kc532, kc541, kc14, kc23, kc23, kc14, kc561, kc561, kc561, kc561, kc23], [(0, 3072), (0, 800), kA3, kA3, (0, 6), (0, 30), kA3, (0, 24), kA3, (0, 6), (0, 30), kA3, (0, 24), (0, 800), (0, 800), kA3, (0, 800), kA3, kA3, kA3, kA3, kA3, kA3, kA3, (0, 6), (0, 30), kA3, (0, 24), kA3, (0, 6), (0, 30), kA3, (0, 24), kA3, (0, 6), (0, 30), kA3, (0, 24), kA3, ((-1), 60), kA3, ((-1), 60), kA3, ((-1), 60), kA3, ((-1), 60), kA3, kA3, kA3, kA3, kA3, kA3, kA3, kA3, kA6, kA3, kA3, kA3, kA3, kA3, kA6, kA6, kA3, (0, 800), (0, 800), kA3, kA3, kA3, kA6, kA3, kA3, kA3, kA3, kA3, kA3, kA3, kA3, kA3, kA3, kA3, kA3, kA3, kA3, kA3, kA3, kA3, kA3, kA3, kA3, kA3, ((-1), 3), ((-1), 3), ((-1), 3), ((-1), 3), (0, 60), (0, 60), (0, 60), (0, 60), (0, 801), (0, 24), (0, 6), (0, 30), (0, 24), (0, 6), (0, 30), (0, 24), (0, 6), (0, 30), (0, 24), (0, 6), (0, 30), (0, 24), (0, 6), (0, 30), kA3, kA3], [([(7, 6), (4, (-1))], 0), ([(27, 6), (24, (-1))], 0), ([(32, 6), (29, (-1))], 0), ([(37, 6), (34, (-1))], 0), ([(100, (-1)), (99, 6)], 0), ([(103, (-1)), (102, 6)], 0), ([(106, (-1)), (105, 6)], 0), ([(109, (-1)), (108, 6)], 0)], [kX 0, kR 0, kR 93, kI 0], 0)
def lp_G0 : lgG := ([39, 38, 90, 94], ([(39, (0, 60)), (38, (0, 3)), (90, (0, 3)), (94, (0, 60))], [([(90, (-1)), (38, 1)], 0), ([(90, 1), (38, (-1))], 0), ([(94, (-1)), (39, 1)], 0), ([(94, 1), (39, (-1))], 0)]), ([(39, ((-1), (-1))), (38, (0, 0)), (90, ((-1), (-1))), (94, (0, 0))], []))
def lp_G1 : lgG := ([41, 40, 91, 95], ([(41, (0, 60)), (40, (0, 3)), (91, (0, 3)), (95, (0, 60))], [([(91, (-1)), (40, 1)], 0), ([(91, 1), (40, (-1))], 0), ([(95, (-1)), (41, 1)], 0), ([(95, 1), (41, (-1))], 0)]), ([(41, ((-1), (-1))), (40, (0, 0)), (91, ((-1), (-1))), (95, (0, 0))], []))
def lp_G2 : lgG := ([43, 42, 92, 96], ([(43, (0, 60)), (42, (0, 3)), (92, (0, 3)), (96, (0, 60))], [([(92, (-1)), (42, 1)], 0), ([(92, 1), (42, (-1))], 0), ([(96, (-1)), (43, 1)], 0), ([(96, 1), (43, (-1))], 0)]), ([(43, ((-1), (-1))), (42, (0, 0)), (92, ((-1), (-1))), (96, (0, 0))], []))
def lp_G3 : lgG := ([45, 44, 93, 97], ([(45, (0, 60)), (44, (0, 3)), (93, (0, 3)), (97, (0, 60))], [([(93, (-1)), (44, 1)], 0), ([(93, 1), (44, (-1))], 0), ([(97, (-1)), (45, 1)], 0), ([(97, 1), (45, (-1))], 0)]), ([(45, ((-1), (-1))), (44, (0, 0)), (93, ((-1), (-1))), (97, (0, 0))], []))
def lp_gs : List lgG := [lp_G0, lp_G1, lp_G2, lp_G3]
def lp_T : List (Nat × xCt) := [(100, xc_175), (102, xc_176), (103, xc_177), (104, xc_178), (105, xc_179), (106, xc_180), (107, xc_181), (108, xc_182), (109, xc_183), (110, xc_184), (111, xc_185), (112, xc_186), (113, xc_187), (114, xc_188), (115, xc_189), (116, xc_190), (117, xc_191), (118, xc_192), (119, xc_193), (120, xc_194), (121, xc_195), (122, xc_196), (123, xc_197), (124, xc_198), (125, xc_199), (126, xc_200), (127, xc_201), (128, xc_202), (129, xc_203), (130, xc_204), (131, xc_205), (132, xc_206), (133, xc_207), (134, xc_208), (135, xc_209), (136, xc_210), (137, xc_211), (139, xc_212), (140, xc_213), (141, xc_214), (142, xc_215), (143, xc_216), (144, xc_217), (145, xc_218), (146, xc_219), (147, xc_220), (150, xc_221), (151, xc_222), (152, xc_223), (153, xc_224), (154, xc_225), (155, xc_226), (156, xc_227), (157, xc_228), (158, xc_229), (162, xc_230), (164, xc_231), (166, xc_232), (167, xc_233), (168, xc_234), (169, xc_235), (170, xc_236), (171, xc_237), (172, xc_238), (174, xc_239), (175, xc_240), (176, xc_241), (178, xc_242), (179, xc_243), (181, xc_245), (300, xc_555), (301, xc_556), (302, xc_557), (303, xc_558), (304, xc_559), (305, xc_560), (308, xc_561), (214, xc_602), (190, xc_603), (192, xc_604), (205, xc_605), (245, xc_606), (246, xc_607), (247, xc_608), (248, xc_609), (249, xc_610), (250, xc_611), (251, xc_612), (252, xc_613), (254, xc_614), (255, xc_615), (256, xc_616), (257, xc_617), (258, xc_618), (259, xc_619), (260, xc_620), (261, xc_621), (262, xc_622), (263, xc_623), (264, xc_624), (265, xc_625), (266, xc_626), (267, xc_627), (268, xc_628), (269, xc_629), (270, xc_630), (271, xc_631), (273, xc_632), (274, xc_633), (276, xc_634), (277, xc_635), (278, xc_636), (279, xc_637), (282, xc_638), (283, xc_639), (284, xc_640), (285, xc_641), (288, xc_642), (289, xc_643), (291, xc_644), (295, xc_645), (296, xc_646), (309, xc_647), (310, xc_648), (312, xc_649), (313, xc_650), (318, xc_651), (319, xc_652), (320, xc_653), (326, xc_654), (327, xc_655), (328, xc_656), (329, xc_657), (323, xc_658), (324, xc_659), (330, xc_660), (331, xc_661), (332, xc_662), (333, xc_663), (188, xc_665), (180, xc_667), (186, xc_668), (180, xc_669), (186, xc_670), (180, xc_671), (186, xc_672), (180, xc_673), (186, xc_674), (180, xc_675), (186, xc_676), (180, xc_677), (186, xc_678), (182, xc_679), (189, xc_680), (182, xc_681), (189, xc_682), (182, xc_683), (189, xc_684), (182, xc_685), (189, xc_686), (182, xc_687), (189, xc_688), (182, xc_689), (189, xc_690), (182, xc_691), (189, xc_692), (182, xc_693), (189, xc_694), (182, xc_695), (189, xc_696), (182, xc_697), (189, xc_698), (182, xc_699), (189, xc_700), (182, xc_701), (189, xc_702), (182, xc_703), (189, xc_704), (182, xc_705), (189, xc_706), (182, xc_707), (189, xc_708), (182, xc_709), (189, xc_710), (182, xc_711), (189, xc_712), (182, xc_713), (189, xc_714), (182, xc_715), (189, xc_716), (182, xc_717), (189, xc_718)]
set_option maxRecDepth 100000 in
theorem lp_Tok (l : Launch) : xCtsOk l lp_T := xTc (xok_175 l) (xTc (xok_176 l) (xTc (xok_177 l) (xTc (xok_178 l) (xTc (xok_179 l) (xTc (xok_180 l) (xTc (xok_181 l) (xTc (xok_182 l) (xTc (xok_183 l) (xTc (xok_184 l) (xTc (xok_185 l) (xTc (xok_186 l) (xTc (xok_187 l) (xTc (xok_188 l) (xTc (xok_189 l) (xTc (xok_190 l) (xTc (xok_191 l) (xTc (xok_192 l) (xTc (xok_193 l) (xTc (xok_194 l) (xTc (xok_195 l) (xTc (xok_196 l) (xTc (xok_197 l) (xTc (xok_198 l) (xTc (xok_199 l) (xTc (xok_200 l) (xTc (xok_201 l) (xTc (xok_202 l) (xTc (xok_203 l) (xTc (xok_204 l) (xTc (xok_205 l) (xTc (xok_206 l) (xTc (xok_207 l) (xTc (xok_208 l) (xTc (xok_209 l) (xTc (xok_210 l) (xTc (xok_211 l) (xTc (xok_212 l) (xTc (xok_213 l) (xTc (xok_214 l) (xTc (xok_215 l) (xTc (xok_216 l) (xTc (xok_217 l) (xTc (xok_218 l) (xTc (xok_219 l) (xTc (xok_220 l) (xTc (xok_221 l) (xTc (xok_222 l) (xTc (xok_223 l) (xTc (xok_224 l) (xTc (xok_225 l) (xTc (xok_226 l) (xTc (xok_227 l) (xTc (xok_228 l) (xTc (xok_229 l) (xTc (xok_230 l) (xTc (xok_231 l) (xTc (xok_232 l) (xTc (xok_233 l) (xTc (xok_234 l) (xTc (xok_235 l) (xTc (xok_236 l) (xTc (xok_237 l) (xTc (xok_238 l) (xTc (xok_239 l) (xTc (xok_240 l) (xTc (xok_241 l) (xTc (xok_242 l) (xTc (xok_243 l) (xTc (xok_245 l) (xTc (xok_555 l) (xTc (xok_556 l) (xTc (xok_557 l) (xTc (xok_558 l) (xTc (xok_559 l) (xTc (xok_560 l) (xTc (xok_561 l) (xTc (xok_602 l) (xTc (xok_603 l) (xTc (xok_604 l) (xTc (xok_605 l) (xTc (xok_606 l) (xTc (xok_607 l) (xTc (xok_608 l) (xTc (xok_609 l) (xTc (xok_610 l) (xTc (xok_611 l) (xTc (xok_612 l) (xTc (xok_613 l) (xTc (xok_614 l) (xTc (xok_615 l) (xTc (xok_616 l) (xTc (xok_617 l) (xTc (xok_618 l) (xTc (xok_619 l) (xTc (xok_620 l) (xTc (xok_621 l) (xTc (xok_622 l) (xTc (xok_623 l) (xTc (xok_624 l) (xTc (xok_625 l) (xTc (xok_626 l) (xTc (xok_627 l) (xTc (xok_628 l) (xTc (xok_629 l) (xTc (xok_630 l) (xTc (xok_631 l) (xTc (xok_632 l) (xTc (xok_633 l) (xTc (xok_634 l) (xTc (xok_635 l) (xTc (xok_636 l) (xTc (xok_637 l) (xTc (xok_638 l) (xTc (xok_639 l) (xTc (xok_640 l) (xTc (xok_641 l) (xTc (xok_642 l) (xTc (xok_643 l) (xTc (xok_644 l) (xTc (xok_645 l) (xTc (xok_646 l) (xTc (xok_647 l) (xTc (xok_648 l) (xTc (xok_649 l) (xTc (xok_650 l) (xTc (xok_651 l) (xTc (xok_652 l) (xTc (xok_653 l) (xTc (xok_654 l) (xTc (xok_655 l) (xTc (xok_656 l) (xTc (xok_657 l) (xTc (xok_658 l) (xTc (xok_659 l) (xTc (xok_660 l) (xTc (xok_661 l) (xTc (xok_662 l) (xTc (xok_663 l) (xTc (xok_665 l) (xTc (xok_667 l) (xTc (xok_668 l) (xTc (xok_669 l) (xTc (xok_670 l) (xTc (xok_671 l) (xTc (xok_672 l) (xTc (xok_673 l) (xTc (xok_674 l) (xTc (xok_675 l) (xTc (xok_676 l) (xTc (xok_677 l) (xTc (xok_678 l) (xTc (xok_679 l) (xTc (xok_680 l) (xTc (xok_681 l) (xTc (xok_682 l) (xTc (xok_683 l) (xTc (xok_684 l) (xTc (xok_685 l) (xTc (xok_686 l) (xTc (xok_687 l) (xTc (xok_688 l) (xTc (xok_689 l) (xTc (xok_690 l) (xTc (xok_691 l) (xTc (xok_692 l) (xTc (xok_693 l) (xTc (xok_694 l) (xTc (xok_695 l) (xTc (xok_696 l) (xTc (xok_697 l) (xTc (xok_698 l) (xTc (xok_699 l) (xTc (xok_700 l) (xTc (xok_701 l) (xTc (xok_702 l) (xTc (xok_703 l) (xTc (xok_704 l) (xTc (xok_705 l) (xTc (xok_706 l) (xTc (xok_707 l) (xTc (xok_708 l) (xTc (xok_709 l) (xTc (xok_710 l) (xTc (xok_711 l) (xTc (xok_712 l) (xTc (xok_713 l) (xTc (xok_714 l) (xTc (xok_715 l) (xTc (xok_716 l) (xTc (xok_717 l) (xTc (xok_718 l) (xTn l))))))))))))))))))))))))))))))))))))))))))))))))))))))))))))))))))))))))))))))))))))))))))))))))))))))))))))))))))))))))))))))))))))))))))))))))))))))))))))))))))))))))))))))))))))))))))))))))
def lp_hl : xHl := xHof xHt 9999
def lp_r0 : Option (List xO2) := xRun2 xMt xTb lp_T xHt 20 100000 0 300 none [18] xm_law2 lp_hl 0 (xSeek xm_law2.pg 0) [] [] [] [(0, .inr (.inr (.inr 0)))] [] 0 0
noncomputable def zlp_r0 : Option (List xO2) := zRun2 xMt xTb lp_T xHt 20 100000 0 300 none [18] xm_law2 lp_hl 0 (zSeek xm_law2.pg 0) [] [] [] [(0, .inr (.inr (.inr 0)))] [] 0 0
theorem zlp_r0_eq : @zlp_r0 = @lp_r0 := by
  delta zlp_r0 lp_r0
  simp only [zSeek_eq, zRun2_eq] <;> rfl
def lp_e0 (r : Option (List xO2)) : Bool := match r with
  | some outs => outs.all (lgChk lp_P0 lp_gs false 122 5715 none)
  | none => false
noncomputable def zlp_e0 (r : Option (List xO2)) : Bool := match r with
  | some outs => (zall (zlgChk lp_P0 lp_gs false 122 5715 none) outs)
  | none => false
theorem zlp_e0_eq : @zlp_e0 = @lp_e0 := by
  delta zlp_e0 lp_e0
  simp only [zall_eq, zlgChk_eq] <;> rfl
def lp_L (k : Nat) (s : List xB × xF) : Bool := lgLeaf lp_T xHt lp_hl lp_P0 lp_gs 0 122 5715 300 k s
noncomputable def zlp_L (k : Nat) (s : List xB × xF) : Bool := zlgLeaf lp_T xHt lp_hl lp_P0 lp_gs 0 122 5715 300 k s
theorem zlp_L_eq : @zlp_L = @lp_L := by
  delta zlp_L lp_L
  simp only [zlgLeaf_eq] <;> rfl
def lp_S (k : Nat) : List xB × xF := lgS0 lp_T xHt lp_hl lp_P0 0 122 5715 300 k
noncomputable def zlp_S (k : Nat) : List xB × xF := zlgS0 lp_T xHt lp_hl lp_P0 0 122 5715 300 k
theorem zlp_S_eq : @zlp_S = @lp_S := by
  delta zlp_S lp_S
  simp only [zlgS0_eq] <;> rfl
def lp_F (k : Nat) (s : List xB × xF) (a n : Nat) : Bool := lgPart lp_T xHt lp_hl lp_P0 lp_gs 0 122 5715 300 k s a n
noncomputable def zlp_F (k : Nat) (s : List xB × xF) (a n : Nat) : Bool := zlgPart lp_T xHt lp_hl lp_P0 lp_gs 0 122 5715 300 k s a n
theorem zlp_F_eq : @zlp_F = @lp_F := by
  delta zlp_F lp_F
  simp only [zlgPart_eq] <;> rfl
def lp_Z (k : Nat) (s : List xB × xF) (a : Nat) : Bool := lgLast lp_T xHt lp_hl lp_P0 0 122 5715 300 k s a
noncomputable def zlp_Z (k : Nat) (s : List xB × xF) (a : Nat) : Bool := zlgLast lp_T xHt lp_hl lp_P0 0 122 5715 300 k s a
theorem zlp_Z_eq : @zlp_Z = @lp_Z := by
  delta zlp_Z lp_Z
  simp only [zlgLast_eq] <;> rfl
def lp_I (k : Nat) : Prop := lgT (fun s => lp_L k s = true) lp_gs (lp_S k)
noncomputable def zlp_I (k : Nat) : Prop := lgT (fun s => zlp_L k s = true) lp_gs (zlp_S k)
theorem zlp_I_eq : @zlp_I = @lp_I := by
  delta zlp_I lp_I
  simp only [zlp_L_eq, zlp_S_eq] <;> rfl
theorem lp_m0 : lp_G0 ∈ lp_gs := by
  unfold lp_gs
  simp
theorem lp_m1 : lp_G1 ∈ lp_gs := by
  unfold lp_gs
  simp
theorem lp_m2 : lp_G2 ∈ lp_gs := by
  unfold lp_gs
  simp
theorem lp_m3 : lp_G3 ∈ lp_gs := by
  unfold lp_gs
  simp
