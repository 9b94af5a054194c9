/-! L2: contracts of the class -/
/-- X6_become -/
def q162c : aCt := (60, [aR [281], aR [89]], [], [(none, [(lLo, lHi), (lLo, lHi)], [])], [(281, 0, 3), (282, 0, 8), (283, 0, 8), (284, 0, 4), (285, 0, 4)])
set_option maxRecDepth 100000 in
theorem q162 : vC tS tR jT 1 q162c := chkF_ok (D := 0) (hst := jTs) (T := []) (N := []) (sp := []) (fu := 52) (fa_nil) (by decide +kernel)
/-- X6_become -/
def q163c : aCt := (60, [aR [286], aR [89]], [], [(none, [(lLo, lHi), (lLo, lHi)], [])], [(286, 0, 3), (287, 0, 8), (288, 0, 8), (289, 0, 4), (290, 0, 4)])
set_option maxRecDepth 100000 in
theorem q163 : vC tS tR jT 1 q163c := chkF_ok (D := 0) (hst := jTs) (T := []) (N := []) (sp := []) (fu := 52) (fa_nil) (by decide +kernel)
/-- X6_become -/
def q164c : aCt := (60, [aR [291], aR [89]], [], [(none, [(lLo, lHi), (lLo, lHi)], [])], [(291, 0, 3), (292, 0, 8), (293, 0, 8), (294, 0, 4), (295, 0, 4)])
set_option maxRecDepth 100000 in
theorem q164 : vC tS tR jT 1 q164c := chkF_ok (D := 0) (hst := jTs) (T := []) (N := []) (sp := []) (fu := 52) (fa_nil) (by decide +kernel)
/-- X6_become -/
def q165c : aCt := (60, [aR [296], aR [89]], [], [(none, [(lLo, lHi), (lLo, lHi)], [])], [(296, 0, 3), (297, 0, 8), (298, 0, 8), (299, 0, 4), (300, 0, 4)])
set_option maxRecDepth 100000 in
theorem q165 : vC tS tR jT 1 q165c := chkF_ok (D := 0) (hst := jTs) (T := []) (N := []) (sp := []) (fu := 52) (fa_nil) (by decide +kernel)
/-- X0_keep -/
def q166c : aCt := (1, [aR [99], aR [89]], [], [(none, [(lLo, lHi), (lLo, lHi)], [])], [(99, 1, 3), (101, 0, 3), (102, 0, 8), (103, 0, 8), (104, 0, 4), (105, 0, 4), (106, 0, 3), (107, 0, 8), (108, 0, 8), (109, 0, 4), (110, 0, 4), (111, 0, 3), (112, 0, 8), (113, 0, 8), (114, 0, 4), (115, 0, 4), (116, 0, 3), (117, 0, 8), (118, 0, 8), (119, 0, 4), (120, 0, 4), (121, 0, 3), (122, 0, 8), (123, 0, 8), (124, 0, 4), (125, 0, 4), (126, 0, 3), (127, 0, 8), (128, 0, 8), (129, 0, 4), (130, 0, 4), (131, 0, 3), (132, 0, 8), (133, 0, 8), (134, 0, 4), (135, 0, 4), (136, 0, 3), (137, 0, 8), (138, 0, 8), (139, 0, 4), (140, 0, 4), (141, 0, 3), (142, 0, 8), (143, 0, 8), (144, 0, 4), (145, 0, 4), (146, 0, 3), (147, 0, 8), (148, 0, 8), (149, 0, 4), (150, 0, 4), (151, 0, 3), (152, 0, 8), (153, 0, 8), (154, 0, 4), (155, 0, 4), (156, 0, 3), (157, 0, 8), (158, 0, 8), (159, 0, 4), (160, 0, 4), (161, 0, 3), (162, 0, 8), (163, 0, 8), (164, 0, 4), (165, 0, 4), (166, 0, 3), (167, 0, 8), (168, 0, 8), (169, 0, 4), (170, 0, 4), (171, 0, 3), (172, 0, 8), (173, 0, 8), (174, 0, 4), (175, 0, 4), (176, 0, 3), (177, 0, 8), (178, 0, 8), (179, 0, 4), (180, 0, 4), (181, 0, 3), (182, 0, 8), (183, 0, 8), (184, 0, 4), (185, 0, 4), (186, 0, 3), (187, 0, 8), (188, 0, 8), (189, 0, 4), (190, 0, 4), (191, 0, 3), (192, 0, 8), (193, 0, 8), (194, 0, 4), (195, 0, 4), (196, 0, 3), (197, 0, 8), (198, 0, 8), (199, 0, 4), (200, 0, 4), (201, 0, 3), (202, 0, 8), (203, 0, 8), (204, 0, 4), (205, 0, 4), (206, 0, 3), (207, 0, 8), (208, 0, 8), (209, 0, 4), (210, 0, 4), (211, 0, 3), (212, 0, 8), (213, 0, 8), (214, 0, 4), (215, 0, 4), (216, 0, 3), (217, 0, 8), (218, 0, 8), (219, 0, 4), (220, 0, 4), (221, 0, 3), (222, 0, 8), (223, 0, 8), (224, 0, 4), (225, 0, 4), (226, 0, 3), (227, 0, 8), (228, 0, 8), (229, 0, 4), (230, 0, 4), (231, 0, 3), (232, 0, 8), (233, 0, 8), (234, 0, 4), (235, 0, 4), (236, 0, 3), (237, 0, 8), (238, 0, 8), (239, 0, 4), (240, 0, 4), (241, 0, 3), (242, 0, 8), (243, 0, 8), (244, 0, 4), (245, 0, 4), (246, 0, 3), (247, 0, 8), (248, 0, 8), (249, 0, 4), (250, 0, 4), (251, 0, 3), (252, 0, 8), (253, 0, 8), (254, 0, 4), (255, 0, 4), (256, 0, 3), (257, 0, 8), (258, 0, 8), (259, 0, 4), (260, 0, 4), (261, 0, 3), (262, 0, 8), (263, 0, 8), (264, 0, 4), (265, 0, 4), (266, 0, 3), (267, 0, 8), (268, 0, 8), (269, 0, 4), (270, 0, 4), (271, 0, 3), (272, 0, 8), (273, 0, 8), (274, 0, 4), (275, 0, 4), (276, 0, 3), (277, 0, 8), (278, 0, 8), (279, 0, 4), (280, 0, 4), (281, 0, 3), (282, 0, 8), (283, 0, 8), (284, 0, 4), (285, 0, 4), (286, 0, 3), (287, 0, 8), (288, 0, 8), (289, 0, 4), (290, 0, 4), (291, 0, 3), (292, 0, 8), (293, 0, 8), (294, 0, 4), (295, 0, 4), (296, 0, 3), (297, 0, 8), (298, 0, 8), (299, 0, 4), (300, 0, 4)])
set_option maxRecDepth 100000 in
theorem q166 : vC tS tR jT 2 q166c := chkV_ok (D := 1) (hst := jTs) (T := [q125c, q126c, q127c, q128c, q129c, q130c, q131c, q132c, q133c, q134c, q135c, q136c, q137c, q138c, q139c, q140c, q141c, q142c, q143c, q144c, q145c, q146c, q147c, q148c, q149c, q150c, q151c, q152c, q153c, q154c, q155c, q156c, q157c, q158c, q159c, q160c, q161c, q162c, q163c, q164c, q165c]) (N := []) (sp := []) (fu := 40) (a := 99) (i := 1) (lo := 0) (n := 40) (fa_cons (vUp q125 (by decide)) (fa_cons (vUp q126 (by decide)) (fa_cons (vUp q127 (by decide)) (fa_cons (vUp q128 (by decide)) (fa_cons (vUp q129 (by decide)) (fa_cons (vUp q130 (by decide)) (fa_cons (vUp q131 (by decide)) (fa_cons (vUp q132 (by decide)) (fa_cons (vUp q133 (by decide)) (fa_cons (vUp q134 (by decide)) (fa_cons (vUp q135 (by decide)) (fa_cons (vUp q136 (by decide)) (fa_cons (vUp q137 (by decide)) (fa_cons (vUp q138 (by decide)) (fa_cons (vUp q139 (by decide)) (fa_cons (vUp q140 (by decide)) (fa_cons (vUp q141 (by decide)) (fa_cons (vUp q142 (by decide)) (fa_cons (vUp q143 (by decide)) (fa_cons (vUp q144 (by decide)) (fa_cons (vUp q145 (by decide)) (fa_cons (vUp q146 (by decide)) (fa_cons (vUp q147 (by decide)) (fa_cons (vUp q148 (by decide)) (fa_cons (vUp q149 (by decide)) (fa_cons (vUp q150 (by decide)) (fa_cons (vUp q151 (by decide)) (fa_cons (vUp q152 (by decide)) (fa_cons (vUp q153 (by decide)) (fa_cons (vUp q154 (by decide)) (fa_cons (vUp q155 (by decide)) (fa_cons (vUp q156 (by decide)) (fa_cons (vUp q157 (by decide)) (fa_cons (vUp q158 (by decide)) (fa_cons (vUp q159 (by decide)) (fa_cons (vUp q160 (by decide)) (fa_cons (vUp q161 (by decide)) (fa_cons (vUp q162 (by decide)) (fa_cons (vUp q163 (by decide)) (fa_cons (vUp q164 (by decide)) (fa_cons (vUp q165 (by decide)) (fa_nil)))))))))))))))))))))))))))))))))))))))))) (by decide +kernel)
/-- X5_chapelsAmong -/
def q167c : aCt := (53, [aR [3], aIt], [], [(some (aI 0 255), [(lLo, lHi), (lLo, lHi)], [])], [])
set_option maxRecDepth 100000 in
theorem q167 : vC tS tR jT 2 q167c := chkF_ok (D := 1) (hst := jTs) (T := [q112c]) (N := [(4, [(0, aR [3]), (1, aIt), (2, aI 0 255), (3, aI 0 8)], [], 0, [(3, 1, 8, true)])]) (sp := []) (fu := 29) (fa_cons (vUp q112 (by decide)) (fa_nil)) (by decide +kernel)
/-- X10_noteStreet -/
def q168c : aCt := (82, [aR [63], aI 0 7, aI 0 7, aIt], [], [(none, [(lLo, lHi), (0, 7), (0, 7), (iLo, iHi)], [])], [(65, 0, 8), (66, 0, 8), (67, 0, 8), (68, 0, 8), (69, 0, 8), (70, 0, 8), (71, 0, 8), (72, 0, 8), (74, 0, 8), (75, 0, 8), (76, 0, 8), (77, 0, 8), (78, 0, 8), (79, 0, 8), (80, 0, 8), (81, 0, 8)])
set_option maxRecDepth 100000 in
theorem q168 : vC tS tR jT 1 q168c := chkF_ok (D := 0) (hst := jTs) (T := []) (N := []) (sp := []) (fu := 60) (fa_nil) (by decide +kernel)
/-- J9_min_7cf53 -/
def q169c : aCt := (269, [aIt, aIt], [], [(some (aIt), [(iLo, iHi), (iLo, iHi)], [])], [])
set_option maxRecDepth 100000 in
theorem q169 : vC tS tR jT 1 q169c := chkF_ok (D := 0) (hst := jTs) (T := []) (N := []) (sp := []) (fu := 13) (fa_nil) (by decide +kernel)
/-- X10_measure -/
def q170c : aCt := (81, [aR [63], aR [3], aIt], [], [(none, [(lLo, lHi), (lLo, lHi), (lLo, lHi)], [])], [(63, 3, 4), (65, 0, 8), (66, 0, 8), (67, 0, 8), (68, 0, 8), (69, 0, 8), (70, 0, 8), (71, 0, 8), (72, 0, 8), (74, 0, 8), (75, 0, 8), (76, 0, 8), (77, 0, 8), (78, 0, 8), (79, 0, 8), (80, 0, 8), (81, 0, 8)])
set_option maxRecDepth 100000 in
theorem q170 : vC tS tR jT 2 q170c := chkF_ok (D := 1) (hst := jTs) (T := [q117c, q116c, q115c, q168c, q169c]) (N := [(10, [(0, aR [63]), (1, aR [3]), (2, aIt), (3, aI 0 8)], [], 760, [(3, 10, 8, true)]),
  (75, [(0, aR [63]), (1, aR [3]), (2, aIt), (3, aI 0 12)], [], 747, [(3, 1, 12, true)]),
  (21, [(0, aR [63]), (1, aR [3]), (2, aIt), (3, aI 0 7), (4, aI 0 8)], [(63, 3, 1, 8)], 751, [(3, 10, 8, true), (4, 1, 8, true)]),
  (118, [(0, aR [63]), (1, aR [3]), (2, aIt), (3, aI 0 8)], [], 90, [(3, 82, 8, true)]),
  (129, [(0, aR [63]), (1, aR [3]), (2, aIt), (3, aI 0 7), (4, aI 0 8)], [(63, 3, 1, 8)], 9, [(3, 82, 8, true), (4, 10, 8, true)]),
  (141, [(0, aR [63]), (1, aR [3]), (2, aIt), (3, aI 0 7), (4, aI 0 7), (5, aI 0 8)], [(63, 3, 1, 8)], 0, [(3, 82, 8, true), (4, 10, 8, true), (5, 1, 8, true)])]) (sp := []) (fu := 40) (fa_cons (vUp q117 (by decide)) (fa_cons (vUp q116 (by decide)) (fa_cons (vUp q115 (by decide)) (fa_cons (vUp q168 (by decide)) (fa_cons (vUp q169 (by decide)) (fa_nil)))))) (by decide +kernel)
/-- X1_lookAt -/
def q171c : aCt := (5, [aR [83], aR [89]], [], [(none, [(lLo, lHi), (lLo, lHi)], [])], [(63, 3, 4), (65, 0, 8), (66, 0, 8), (67, 0, 8), (68, 0, 8), (69, 0, 8), (70, 0, 8), (71, 0, 8), (72, 0, 8), (74, 0, 8), (75, 0, 8), (76, 0, 8), (77, 0, 8), (78, 0, 8), (79, 0, 8), (80, 0, 8), (81, 0, 8), (83, 3, 4)])
set_option maxRecDepth 100000 in
theorem q171 : vC tS tR jT 3 q171c := chkF_ok (D := 2) (hst := jTs) (T := [q110c, q167c, q170c]) (N := []) (sp := []) (fu := 26) (fa_cons (vUp q110 (by decide)) (fa_cons (vUp q167 (by decide)) (fa_cons (vUp q170 (by decide)) (fa_nil)))) (by decide +kernel)
/-- J9_min_7cf53 -/
def q172c : aCt := (269, [aI 999 999, aIt], [], [(some (aI iLo 999), [(999, 999), (iLo, iHi)], [])], [])
set_option maxRecDepth 100000 in
theorem q172 : vC tS tR jT 1 q172c := chkF_ok (D := 0) (hst := jTs) (T := []) (N := []) (sp := []) (fu := 13) (fa_nil) (by decide +kernel)
/-- X10_yardsBetween -/
def q173c : aCt := (85, [aR [63], aI 0 7, aI 0 7], [], [(some (aI (-1) (-1)), [(lLo, lHi), (0, 7), (0, 7)], []), (some (aIt), [(lLo, lHi), (0, 7), (0, 7)], [])], [])
set_option maxRecDepth 100000 in
theorem q173 : vC tS tR jT 1 q173c := chkF_ok (D := 0) (hst := jTs) (T := []) (N := []) (sp := []) (fu := 24) (fa_nil) (by decide +kernel)
/-- X1_canCome -/
def q174c : aCt := (6, [aR [83], aR [89], aI 0 3, aI 0 7], [], [(some (aI 1 1), [(lLo, lHi), (lLo, lHi), (0, 3), (0, 7)], []), (some (aI 0 0), [(lLo, lHi), (lLo, lHi), (0, 3), (0, 7)], [])], [])
set_option maxRecDepth 100000 in
theorem q174 : vC tS tR jT 2 q174c := chkF_ok (D := 1) (hst := jTs) (T := [q173c]) (N := []) (sp := []) (fu := 27) (fa_cons (vUp q173 (by decide)) (fa_nil)) (by decide +kernel)
/-- X3_tellTown -/
def q175c : aCt := (27, [aR [47], aIt, aIt], [], [(none, [(lLo, lHi), (iLo, iHi), (iLo, iHi)], [])], [(47, 10, 12)])
set_option maxRecDepth 100000 in
theorem q175 : vC tS tR jT 1 q175c := chkF_ok (D := 0) (hst := jTs) (T := []) (N := []) (sp := []) (fu := 14) (fa_nil) (by decide +kernel)
/-- X3_tellChapel -/
def q176c : aCt := (28, [aR [47], aIt, aIt, aIt, aIt], [], [(none, [(lLo, lHi), (iLo, iHi), (iLo, iHi), (iLo, iHi), (iLo, iHi)], [])], [(47, 6, 10)])
set_option maxRecDepth 100000 in
theorem q176 : vC tS tR jT 1 q176c := chkF_ok (D := 0) (hst := jTs) (T := []) (N := []) (sp := []) (fu := 20) (fa_nil) (by decide +kernel)
/-- X3_push -/
def q177c : aCt := (33, [aR [47], aIt], [], [(none, [(lLo, lHi), (iLo, iHi)], [])], [(47, 3, 4), (54, 0, 64)])
set_option maxRecDepth 100000 in
theorem q177 : vC tS tR jT 1 q177c := chkF_ok (D := 0) (hst := jTs) (T := []) (N := []) (sp := []) (fu := 24) (fa_nil) (by decide +kernel)
/-- X2_isLetter -/
def q178c : aCt := (22, [aI 1 58], [], [(some (aI 0 0), [(1, 58)], [])], [])
set_option maxRecDepth 100000 in
theorem q178 : vC tS tR jT 1 q178c := chkF_ok (D := 0) (hst := jTs) (T := []) (N := []) (sp := []) (fu := 27) (fa_nil) (by decide +kernel)
/-- X3_pop -/
def q179c : aCt := (34, [aR [47]], [], [(some (aIt), [(lLo, lHi)], []), (some (aI 0 0), [(lLo, lHi)], [])], [(47, 3, 4)])
set_option maxRecDepth 100000 in
theorem q179 : vC tS tR jT 1 q179c := chkF_ok (D := 0) (hst := jTs) (T := []) (N := []) (sp := []) (fu := 23) (fa_nil) (by decide +kernel)
/-- X3_bounded -/
def q180c : aCt := (32, [aLt], [], [(some (aIt), [(lLo, lHi)], []), (some (aI (-1000000) (-1000000)), [(lLo, lHi)], [])], [])
set_option maxRecDepth 100000 in
theorem q180 : vC tS tR jT 1 q180c := chkF_ok (D := 0) (hst := jTs) (T := []) (N := []) (sp := []) (fu := 18) (fa_nil) (by decide +kernel)
/-- X3_joined -/
def q181c : aCt := (31, [aLt, aIt, aLt], [], [(some (aI 1 1), [(lLo, lHi), (iLo, iHi), (lLo, lHi)], []), (some (aI 0 0), [(lLo, lHi), (iLo, iHi), (lLo, lHi)], []), (some (aI (-1000000) (-1000000)), [(lLo, lHi), (42, 47), (lLo, lHi)], []), (some (aIt), [(lLo, lHi), (42, 47), (lLo, lHi)], [])], [])
set_option maxRecDepth 100000 in
theorem q181 : vC tS tR jT 2 q181c := chkF_ok (D := 1) (hst := jTs) (T := [q180c]) (N := []) (sp := []) (fu := 20) (fa_cons (vUp q180 (by decide)) (fa_nil)) (by decide +kernel)
/-- X2_isLetter -/
def q182c : aCt := (22, [aI 60 62], [], [(some (aI 0 0), [(60, 62)], [])], [])
set_option maxRecDepth 100000 in
theorem q182 : vC tS tR jT 1 q182c := chkF_ok (D := 0) (hst := jTs) (T := []) (N := []) (sp := []) (fu := 27) (fa_nil) (by decide +kernel)
/-- X2_isLetter -/
def q183c : aCt := (22, [aIt], [], [(some (aI 0 0), [(iLo, iHi)], []), (some (aI 1 1), [(99, 121)], [])], [])
set_option maxRecDepth 100000 in
theorem q183 : vC tS tR jT 1 q183c := chkF_ok (D := 0) (hst := jTs) (T := []) (N := []) (sp := []) (fu := 28) (fa_nil) (by decide +kernel)
/-- X3_letter -/
def q184c : aCt := (30, [aR [47], aIt], [], [(some (aIt), [(lLo, lHi), (iLo, iHi)], [])], [])
set_option maxRecDepth 100000 in
theorem q184 : vC tS tR jT 1 q184c := chkF_ok (D := 0) (hst := jTs) (T := []) (N := []) (sp := []) (fu := 12) (fa_nil) (by decide +kernel)
/-- X3_worth -/
def q185c : aCt := (29, [aR [47]], [], [(some (aI 0 0), [(lLo, lHi)], []), (some (aIt), [(lLo, lHi)], [])], [(47, 3, 4), (54, 0, 64)])
set_option maxRecDepth 100000 in
theorem q185 : vC tS tR jT 3 q185c := chkF_ok (D := 2) (hst := jTs) (T := [q177c, q178c, q179c, q181c, q182c, q183c, q184c]) (N := [(39, [(0, aR [47]), (1, aR [49, 50, 51, 52]), (2, aI 0 1), (3, aI 0 240)], [(47, 5, 0, 3), (47, 4, 1, 4)], 0, [(3, 1, 240, true)])]) (sp := []) (fu := 51) (fa_cons (vUp q177 (by decide)) (fa_cons (vUp q178 (by decide)) (fa_cons (vUp q179 (by decide)) (fa_cons (vUp q181 (by decide)) (fa_cons (vUp q182 (by decide)) (fa_cons (vUp q183 (by decide)) (fa_cons (vUp q184 (by decide)) (fa_nil)))))))) (by decide +kernel)
/-- J9_min_7cf53 -/
def q186c : aCt := (269, [aI 99 99, aIt], [], [(some (aI iLo 99), [(99, 99), (iLo, iHi)], [])], [])
set_option maxRecDepth 100000 in
theorem q186 : vC tS tR jT 1 q186c := chkF_ok (D := 0) (hst := jTs) (T := []) (N := []) (sp := []) (fu := 13) (fa_nil) (by decide +kernel)
/-- J9_max_7cf53 -/
def q187c : aCt := (267, [aI (-99) (-99), aI iLo 99], [], [(some (aI (-99) 99), [((-99), (-99)), (iLo, 99)], [])], [])
set_option maxRecDepth 100000 in
theorem q187 : vC tS tR jT 1 q187c := chkF_ok (D := 0) (hst := jTs) (T := []) (N := []) (sp := []) (fu := 13) (fa_nil) (by decide +kernel)
/-- J9_min_7cf53 -/
def q188c : aCt := (269, [aI 99 99, aI 0 0], [], [(some (aI 0 0), [(99, 99), (0, 0)], [])], [])
set_option maxRecDepth 100000 in
theorem q188 : vC tS tR jT 1 q188c := chkF_ok (D := 0) (hst := jTs) (T := []) (N := []) (sp := []) (fu := 12) (fa_nil) (by decide +kernel)
