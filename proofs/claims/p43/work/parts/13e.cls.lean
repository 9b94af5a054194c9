/-! L2: contracts of the class -/
/-- X11_text -/
def q108c : aCt := (99, [aR [0], aIt], [], [(some (aI (-1) (-1)), [(lLo, lHi), (iLo, iHi)], []), (some (aI 0 12), [(lLo, lHi), (0, 2)], [])], [(0, 15, 16), (1, 1, 4), (3, 0, 3), (4, 0, 2), (6, 0, 4), (7, 0, 4), (8, 0, 4), (9, 0, 4), (10, 0, 4), (11, 0, 4), (12, 0, 4), (13, 0, 4), (14, 0, 4), (15, 0, 4), (16, 0, 4), (17, 0, 4), (19, 0, 2), (20, 0, 2), (21, 0, 2), (22, 0, 2), (23, 0, 8), (24, 0, 4), (25, 0, 2), (27, 0, 4), (28, 0, 4), (29, 0, 4), (30, 0, 4), (31, 0, 4), (32, 0, 4), (33, 0, 4), (34, 0, 4), (35, 0, 4), (36, 0, 4), (37, 0, 4), (38, 0, 4), (40, 0, 2), (41, 0, 2), (42, 0, 2), (43, 0, 2), (44, 0, 8), (45, 2, 3), (46, 0, 240), (47, 4, 5), (49, 0, 240), (50, 0, 240), (51, 0, 240), (52, 0, 240), (53, 0, 4), (55, 3, 5), (57, 0, 16), (58, 0, 16), (59, 0, 16), (60, 0, 16), (61, 0, 4), (62, 0, 16), (84, 4, 5), (89, 0, 3), (90, 0, 8), (91, 0, 8), (92, 0, 4), (93, 0, 4), (99, 2, 3)])
set_option maxRecDepth 100000 in
theorem q108 : vC tS tR jT 37 q108c := chkF_ok (D := 36) (hst := jTs) (T := [q100c, q101c, q102c, q107c]) (N := []) (sp := []) (fu := 35) (fa_cons (vUp q100 (by decide)) (fa_cons (vUp q101 (by decide)) (fa_cons (vUp q102 (by decide)) (fa_cons (vUp q107 (by decide)) (fa_nil))))) (by decide +kernel)
/-- X11_isCorner -/
def q109c : aCt := (108, [aR [0], aIt], [], [(some (aI 0 0), [(lLo, lHi), (iLo, iHi)], []), (some (aI 1 1), [(lLo, lHi), (0, 7)], [])], [])
set_option maxRecDepth 100000 in
theorem q109 : vC tS tR jT 1 q109c := chkF_ok (D := 0) (hst := jTs) (T := []) (N := []) (sp := []) (fu := 17) (fa_nil) (by decide +kernel)
/-- X5_openBehind -/
def q110c : aCt := (52, [aR [3], aIt], [], [(some (aI 0 4095), [(lLo, lHi), (iLo, iHi)], [])], [])
set_option maxRecDepth 100000 in
theorem q110 : vC tS tR jT 1 q110c := chkF_ok (D := 0) (hst := jTs) (T := []) (N := []) (sp := []) (fu := 18) (fa_nil) (by decide +kernel)
/-- X11_openNow -/
def q111c : aCt := (112, [aR [0]], [], [(some (aI 0 4095), [(lLo, lHi)], [])], [])
set_option maxRecDepth 100000 in
theorem q111 : vC tS tR jT 2 q111c := chkF_ok (D := 1) (hst := jTs) (T := [q110c]) (N := []) (sp := []) (fu := 14) (fa_cons (vUp q110 (by decide)) (fa_nil)) (by decide +kernel)
/-- J6_bitCount_0f7a4 -/
def q112c : aCt := (264, [aIt], [], [(some (aI 0 63), [(lLo, lHi)], [])], [])
set_option maxRecDepth 100000 in
theorem q112 : vC tS tR jT 1 q112c := chkF_ok (D := 0) (hst := jTs) (T := []) (N := []) (sp := []) (fu := 49) (fa_nil) (by decide +kernel)
/-- X11_corner -/
def q113c : aCt := (101, [aR [0], aIt, aIt], [], [(some (aIt), [(lLo, lHi), (0, 7), (0, 2)], []), (some (aI (-1) (-1)), [(lLo, lHi), (iLo, iHi), (iLo, iHi)], [])], [])
set_option maxRecDepth 100000 in
theorem q113 : vC tS tR jT 3 q113c := chkF_ok (D := 2) (hst := jTs) (T := [q109c, q111c, q112c]) (N := []) (sp := []) (fu := 23) (fa_cons (vUp q109 (by decide)) (fa_cons (vUp q111 (by decide)) (fa_cons (vUp q112 (by decide)) (fa_nil)))) (by decide +kernel)
/-- X11_isStreet -/
def q114c : aCt := (109, [aR [0], aIt], [], [(some (aI 0 0), [(lLo, lHi), (iLo, iHi)], []), (some (aI 1 1), [(lLo, lHi), (0, 11)], [])], [])
set_option maxRecDepth 100000 in
theorem q114 : vC tS tR jT 1 q114c := chkF_ok (D := 0) (hst := jTs) (T := []) (N := []) (sp := []) (fu := 17) (fa_nil) (by decide +kernel)
/-- X5_yardsOf -/
def q115c : aCt := (50, [aR [3], aI 0 11], [], [(some (aI 0 40), [(lLo, lHi), (0, 11)], [])], [])
set_option maxRecDepth 100000 in
theorem q115 : vC tS tR jT 1 q115c := chkF_ok (D := 0) (hst := jTs) (T := []) (N := []) (sp := []) (fu := 14) (fa_nil) (by decide +kernel)
/-- X5_endB -/
def q116c : aCt := (49, [aR [3], aI 0 11], [], [(some (aI 0 7), [(lLo, lHi), (0, 11)], [])], [])
set_option maxRecDepth 100000 in
theorem q116 : vC tS tR jT 1 q116c := chkF_ok (D := 0) (hst := jTs) (T := []) (N := []) (sp := []) (fu := 14) (fa_nil) (by decide +kernel)
/-- X5_endA -/
def q117c : aCt := (48, [aR [3], aI 0 11], [], [(some (aI 0 7), [(lLo, lHi), (0, 11)], [])], [])
set_option maxRecDepth 100000 in
theorem q117 : vC tS tR jT 1 q117c := chkF_ok (D := 0) (hst := jTs) (T := []) (N := []) (sp := []) (fu := 14) (fa_nil) (by decide +kernel)
/-- X11_street -/
def q118c : aCt := (102, [aR [0], aIt, aIt], [], [(some (aI 0 40), [(lLo, lHi), (0, 11), (0, 3)], []), (some (aI (-1) (-1)), [(lLo, lHi), (iLo, iHi), (iLo, iHi)], [])], [])
set_option maxRecDepth 100000 in
theorem q118 : vC tS tR jT 2 q118c := chkF_ok (D := 1) (hst := jTs) (T := [q114c, q115c, q116c, q117c]) (N := []) (sp := []) (fu := 21) (fa_cons (vUp q114 (by decide)) (fa_cons (vUp q115 (by decide)) (fa_cons (vUp q116 (by decide)) (fa_cons (vUp q117 (by decide)) (fa_nil))))) (by decide +kernel)
/-- X11_law -/
def q119c : aCt := (104, [aR [0], aIt], [], [(some (aI 0 0), [(lLo, lHi), (iLo, iHi)], []), (some (aI 1 1), [(lLo, lHi), ((-1), 3)], [])], [(47, 5, 6)])
set_option maxRecDepth 100000 in
theorem q119 : vC tS tR jT 1 q119c := chkF_ok (D := 0) (hst := jTs) (T := []) (N := []) (sp := []) (fu := 23) (fa_nil) (by decide +kernel)
/-- X11_council -/
def q120c : aCt := (105, [aR [0], aIt], [], [(some (aI 1 1), [(lLo, lHi), (0, 9)], []), (some (aI 0 0), [(lLo, lHi), (iLo, iHi)], [])], [(0, 16, 17)])
set_option maxRecDepth 100000 in
theorem q120 : vC tS tR jT 1 q120c := chkF_ok (D := 0) (hst := jTs) (T := []) (N := []) (sp := []) (fu := 21) (fa_nil) (by decide +kernel)
/-- J9_min_7cf53 -/
def q121c : aCt := (269, [aI 60 60, aIt], [], [(some (aI iLo 60), [(60, 60), (iLo, iHi)], [])], [])
set_option maxRecDepth 100000 in
theorem q121 : vC tS tR jT 1 q121c := chkF_ok (D := 0) (hst := jTs) (T := []) (N := []) (sp := []) (fu := 13) (fa_nil) (by decide +kernel)
/-- X11_logLength -/
def q122c : aCt := (125, [aR [0]], [], [(some (aI iLo 60), [(lLo, lHi)], [])], [])
set_option maxRecDepth 100000 in
theorem q122 : vC tS tR jT 2 q122c := chkF_ok (D := 1) (hst := jTs) (T := [q121c]) (N := []) (sp := []) (fu := 13) (fa_cons (vUp q121 (by decide)) (fa_nil)) (by decide +kernel)
/-- X11_count -/
def q123c : aCt := (106, [aR [0], aIt], [], [(some (aIt), [(lLo, lHi), (0, 12)], []), (some (aI (-1000000) (-1000000)), [(lLo, lHi), (iLo, iHi)], [])], [])
set_option maxRecDepth 100000 in
theorem q123 : vC tS tR jT 3 q123c := chkF_ok (D := 2) (hst := jTs) (T := [q122c]) (N := []) (sp := []) (fu := 13) (fa_cons (vUp q122 (by decide)) (fa_nil)) (by decide +kernel)
/-- X11_hasTown -/
def q124c : aCt := (107, [aR [0]], [], [(some (aI 1 1), [(lLo, lHi)], []), (some (aI 0 0), [(lLo, lHi)], [])], [])
set_option maxRecDepth 100000 in
theorem q124 : vC tS tR jT 1 q124c := chkF_ok (D := 0) (hst := jTs) (T := []) (N := []) (sp := []) (fu := 14) (fa_nil) (by decide +kernel)
/-- X6_become -/
def q125c : aCt := (60, [aR [101], aR [89]], [], [(none, [(lLo, lHi), (lLo, lHi)], [])], [(101, 0, 3), (102, 0, 8), (103, 0, 8), (104, 0, 4), (105, 0, 4)])
set_option maxRecDepth 100000 in
theorem q125 : vC tS tR jT 1 q125c := chkF_ok (D := 0) (hst := jTs) (T := []) (N := []) (sp := []) (fu := 52) (fa_nil) (by decide +kernel)
/-- J9_min_7cf53 -/
def q126c : aCt := (269, [aI 1 41, aI 40 40], [], [(some (aI 1 40), [(1, 41), (40, 40)], [])], [])
set_option maxRecDepth 100000 in
theorem q126 : vC tS tR jT 1 q126c := chkF_ok (D := 0) (hst := jTs) (T := []) (N := []) (sp := []) (fu := 13) (fa_nil) (by decide +kernel)
/-- X6_become -/
def q127c : aCt := (60, [aR [106], aR [89]], [], [(none, [(lLo, lHi), (lLo, lHi)], [])], [(106, 0, 3), (107, 0, 8), (108, 0, 8), (109, 0, 4), (110, 0, 4)])
set_option maxRecDepth 100000 in
theorem q127 : vC tS tR jT 1 q127c := chkF_ok (D := 0) (hst := jTs) (T := []) (N := []) (sp := []) (fu := 52) (fa_nil) (by decide +kernel)
/-- X6_become -/
def q128c : aCt := (60, [aR [111], aR [89]], [], [(none, [(lLo, lHi), (lLo, lHi)], [])], [(111, 0, 3), (112, 0, 8), (113, 0, 8), (114, 0, 4), (115, 0, 4)])
set_option maxRecDepth 100000 in
theorem q128 : vC tS tR jT 1 q128c := chkF_ok (D := 0) (hst := jTs) (T := []) (N := []) (sp := []) (fu := 52) (fa_nil) (by decide +kernel)
/-- X6_become -/
def q129c : aCt := (60, [aR [116], aR [89]], [], [(none, [(lLo, lHi), (lLo, lHi)], [])], [(116, 0, 3), (117, 0, 8), (118, 0, 8), (119, 0, 4), (120, 0, 4)])
set_option maxRecDepth 100000 in
theorem q129 : vC tS tR jT 1 q129c := chkF_ok (D := 0) (hst := jTs) (T := []) (N := []) (sp := []) (fu := 52) (fa_nil) (by decide +kernel)
/-- X6_become -/
def q130c : aCt := (60, [aR [121], aR [89]], [], [(none, [(lLo, lHi), (lLo, lHi)], [])], [(121, 0, 3), (122, 0, 8), (123, 0, 8), (124, 0, 4), (125, 0, 4)])
set_option maxRecDepth 100000 in
theorem q130 : vC tS tR jT 1 q130c := chkF_ok (D := 0) (hst := jTs) (T := []) (N := []) (sp := []) (fu := 52) (fa_nil) (by decide +kernel)
/-- X6_become -/
def q131c : aCt := (60, [aR [126], aR [89]], [], [(none, [(lLo, lHi), (lLo, lHi)], [])], [(126, 0, 3), (127, 0, 8), (128, 0, 8), (129, 0, 4), (130, 0, 4)])
set_option maxRecDepth 100000 in
theorem q131 : vC tS tR jT 1 q131c := chkF_ok (D := 0) (hst := jTs) (T := []) (N := []) (sp := []) (fu := 52) (fa_nil) (by decide +kernel)
/-- X6_become -/
def q132c : aCt := (60, [aR [131], aR [89]], [], [(none, [(lLo, lHi), (lLo, lHi)], [])], [(131, 0, 3), (132, 0, 8), (133, 0, 8), (134, 0, 4), (135, 0, 4)])
set_option maxRecDepth 100000 in
theorem q132 : vC tS tR jT 1 q132c := chkF_ok (D := 0) (hst := jTs) (T := []) (N := []) (sp := []) (fu := 52) (fa_nil) (by decide +kernel)
/-- X6_become -/
def q133c : aCt := (60, [aR [136], aR [89]], [], [(none, [(lLo, lHi), (lLo, lHi)], [])], [(136, 0, 3), (137, 0, 8), (138, 0, 8), (139, 0, 4), (140, 0, 4)])
set_option maxRecDepth 100000 in
theorem q133 : vC tS tR jT 1 q133c := chkF_ok (D := 0) (hst := jTs) (T := []) (N := []) (sp := []) (fu := 52) (fa_nil) (by decide +kernel)
/-- X6_become -/
def q134c : aCt := (60, [aR [141], aR [89]], [], [(none, [(lLo, lHi), (lLo, lHi)], [])], [(141, 0, 3), (142, 0, 8), (143, 0, 8), (144, 0, 4), (145, 0, 4)])
set_option maxRecDepth 100000 in
theorem q134 : vC tS tR jT 1 q134c := chkF_ok (D := 0) (hst := jTs) (T := []) (N := []) (sp := []) (fu := 52) (fa_nil) (by decide +kernel)
