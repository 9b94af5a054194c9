/-! L2: contracts of the reference -/
/-- X12_wallsBy -/
def r108c : aCt := (235, [aR [314], aIt], [], [(some (aIt), [(lLo, lHi), (iLo, iHi)], [])], [])
set_option maxRecDepth 100000 in
theorem r108 : vC tS tR jM 1 r108c := chk_ok (D := 0) (hst := jM_st (by decide +kernel)) (T := []) (N := []) (sp := []) (fu := 21) (fa_nil) (by decide +kernel)
/-- X12_isSo -/
def r109c : aCt := (234, [aR [314], aIt], [], [(some (aI 1 1), [(lLo, lHi), (lLo, lHi)], []), (some (aI 0 0), [(lLo, lHi), (lLo, lHi)], [])], [])
set_option maxRecDepth 100000 in
theorem r109 : vC tS tR jM 4 r109c := chk_ok (D := 3) (hst := jM_st (by decide +kernel)) (T := [r27c]) (N := [(8, [(0, aR [314]), (1, aIt), (2, aI 0 255), (3, aI 0 10)], [], 0, [(3, 1, 10, true)])]) (sp := []) (fu := 33) (fa_cons (vUp r27 (by decide)) (fa_nil)) (by decide +kernel)
/-- X12_couldBe -/
def r110c : aCt := (236, [aR [314], aIt], [], [(some (aI 0 0), [(lLo, lHi), (iLo, iHi)], []), (some (aI 1 1), [(lLo, lHi), (iLo, 99)], [])], [])
set_option maxRecDepth 100000 in
theorem r110 : vC tS tR jM 5 r110c := chk_ok (D := 4) (hst := jM_st (by decide +kernel)) (T := [r107c, r108c, r109c]) (N := []) (sp := []) (fu := 30) (fa_cons (vUp r107 (by decide)) (fa_cons (vUp r108 (by decide)) (fa_cons (vUp r109 (by decide)) (fa_nil)))) (by decide +kernel)
/-- X12_knocked -/
def r111c : aCt := (237, [aR [314], aIt], [], [(some (aI (-1) (-1)), [(lLo, lHi), (lLo, lHi)], []), (some (aIt), [(lLo, lHi), (lLo, lHi)], [])], [(314, 0, 1)])
set_option maxRecDepth 100000 in
theorem r111 : vC tS tR jM 6 r111c := chk_ok (D := 5) (hst := jM_st (by decide +kernel)) (T := [r110c]) (N := [(23, [(0, aR [314]), (1, aI (-1) iHi), (2, aIt), (3, aI 0 100)], [(314, 0, 0, 0), (314, 26, 1, 12)], 0, [(3, 1, 100, true)])]) (sp := []) (fu := 21) (fa_cons (vUp r110 (by decide)) (fa_nil)) (by decide +kernel)
/-- X12_has -/
def r112c : aCt := (156, [aI 0 255, aI 0 0], [], [(some (aI 0 0), [(0, 255), (0, 0)], []), (some (aI 1 1), [(0, 255), (0, 0)], [])], [])
set_option maxRecDepth 100000 in
theorem r112 : vC tS tR jM 1 r112c := chk_ok (D := 0) (hst := jM_st (by decide +kernel)) (T := []) (N := []) (sp := []) (fu := 17) (fa_nil) (by decide +kernel)
/-- J9_abs_0f7a4 -/
def r113c : aCt := (266, [aIt], [], [(some (aIt), [(iLo, iHi)], [])], [])
set_option maxRecDepth 100000 in
theorem r113 : vC tS tR jM 1 r113c := chk_ok (D := 0) (hst := jM_st (by decide +kernel)) (T := []) (N := []) (sp := []) (fu := 13) (fa_nil) (by decide +kernel)
/-- X12_has -/
def r114c : aCt := (156, [aI 0 255, aI 0 1], [], [(some (aI 0 0), [(0, 255), (0, 1)], []), (some (aI 1 1), [(0, 255), (0, 1)], [])], [])
set_option maxRecDepth 100000 in
theorem r114 : vC tS tR jM 1 r114c := chk_ok (D := 0) (hst := jM_st (by decide +kernel)) (T := []) (N := []) (sp := []) (fu := 17) (fa_nil) (by decide +kernel)
/-- X12_has -/
def r115c : aCt := (156, [aI 0 255, aI 0 2], [], [(some (aI 0 0), [(0, 255), (0, 2)], []), (some (aI 1 1), [(0, 255), (0, 2)], [])], [])
set_option maxRecDepth 100000 in
theorem r115 : vC tS tR jM 1 r115c := chk_ok (D := 0) (hst := jM_st (by decide +kernel)) (T := []) (N := []) (sp := []) (fu := 17) (fa_nil) (by decide +kernel)
/-- X12_has -/
def r116c : aCt := (156, [aI 0 255, aI 0 3], [], [(some (aI 0 0), [(0, 255), (0, 3)], []), (some (aI 1 1), [(0, 255), (0, 3)], [])], [])
set_option maxRecDepth 100000 in
theorem r116 : vC tS tR jM 1 r116c := chk_ok (D := 0) (hst := jM_st (by decide +kernel)) (T := []) (N := []) (sp := []) (fu := 17) (fa_nil) (by decide +kernel)
/-- X12_has -/
def r117c : aCt := (156, [aI 0 255, aI 0 4], [], [(some (aI 0 0), [(0, 255), (0, 4)], []), (some (aI 1 1), [(0, 255), (0, 4)], [])], [])
set_option maxRecDepth 100000 in
theorem r117 : vC tS tR jM 1 r117c := chk_ok (D := 0) (hst := jM_st (by decide +kernel)) (T := []) (N := []) (sp := []) (fu := 17) (fa_nil) (by decide +kernel)
/-- X12_has -/
def r118c : aCt := (156, [aI 0 255, aI 0 5], [], [(some (aI 0 0), [(0, 255), (0, 5)], []), (some (aI 1 1), [(0, 255), (0, 5)], [])], [])
set_option maxRecDepth 100000 in
theorem r118 : vC tS tR jM 1 r118c := chk_ok (D := 0) (hst := jM_st (by decide +kernel)) (T := []) (N := []) (sp := []) (fu := 17) (fa_nil) (by decide +kernel)
/-- X12_has -/
def r119c : aCt := (156, [aI 0 255, aI 0 6], [], [(some (aI 0 0), [(0, 255), (0, 6)], []), (some (aI 1 1), [(0, 255), (0, 6)], [])], [])
set_option maxRecDepth 100000 in
theorem r119 : vC tS tR jM 1 r119c := chk_ok (D := 0) (hst := jM_st (by decide +kernel)) (T := []) (N := []) (sp := []) (fu := 17) (fa_nil) (by decide +kernel)
/-- X12_ask -/
def r120c : aCt := (238, [aR [314]], [], [(some (aI (-1) (-1)), [(lLo, lHi)], []), (some (aI (-1) 7), [(lLo, lHi)], [])], [(314, 0, 1)])
set_option maxRecDepth 100000 in
theorem r120 : vC tS tR jM 6 r120c := chk_ok (D := 5) (hst := jM_st (by decide +kernel)) (T := [r110c, r108c, r27c, r28c, r113c]) (N := [(20, [(0, aR [314]), (1, aI (-1) 7), (2, aIt), (3, aI 0 8)], [(314, 0, 0, 0), (314, 26, 1, 12)], 101, [(3, 102, 8, true)]),
  (37, [(0, aR [314]), (1, aI (-1) 7), (2, aIt), (3, aI 0 7), (4, aIt), (5, aI 0 1), (6, aI 0 100)], [(314, 0, 0, 0), (314, 26, 1, 12), (314, 25, 1, 8)], 0, [(3, 102, 8, true), (6, 1, 100, true)])]) (sp := []) (fu := 32) (fa_cons (vUp r110 (by decide)) (fa_cons (vUp r108 (by decide)) (fa_cons (vUp r27 (by decide)) (fa_cons (vUp r28 (by decide)) (fa_cons (vUp r113 (by decide)) (fa_nil)))))) (by decide +kernel)
/-- X12_isIn -/
def r121c : aCt := (155, [aLt, aL 1 1, aL 0 255], [], [(some (aI 1 1), [(1, 255), (lLo, lHi), (lLo, lHi)], []), (some (aI 0 0), [(lLo, lHi), (lLo, lHi), (lLo, lHi)], [])], [])
theorem r121 : vC tS tR jM 1 r121c := isin_ok (1) (1) (0) (255)
/-- X12_walls -/
def r122c : aCt := (239, [aR [314], aIt], [], [(some (aI (-1) (-1)), [(lLo, lHi), (iLo, iHi)], []), (some (aI (-1) 4095), [(lLo, lHi), (lLo, lHi)], [])], [(314, 0, 1)])
set_option maxRecDepth 100000 in
theorem r122 : vC tS tR jM 4 r122c := chk_ok (D := 3) (hst := jM_st (by decide +kernel)) (T := [r121c, r31c, r27c]) (N := [(36, [(0, aR [314]), (1, aI 1 255), (2, aI (-1) 4095), (3, aI 0 4096)], [(314, 0, 0, 0), (314, 26, 1, 12)], 0, [(3, 1, 4096, true)])]) (sp := []) (fu := 46) (fa_cons (vUp r121 (by decide)) (fa_cons (vUp r31 (by decide)) (fa_cons (vUp r27 (by decide)) (fa_nil)))) (by decide +kernel)
/-- X12_isGame -/
def r123c : aCt := (245, [aR [314], aIt, aIt], [], [(some (aI 1 1), [(lLo, lHi), (0, 3), (0, 3)], []), (some (aI 0 0), [(lLo, lHi), (iLo, iHi), (iLo, iHi)], [])], [])
set_option maxRecDepth 100000 in
theorem r123 : vC tS tR jM 2 r123c := chk_ok (D := 1) (hst := jM_st (by decide +kernel)) (T := [r20c]) (N := []) (sp := []) (fu := 21) (fa_cons (vUp r20 (by decide)) (fa_nil)) (by decide +kernel)
/-- X12_isIn -/
def r124c : aCt := (155, [aLt, aL 0 0, aL 100 100], [], [(some (aI 1 1), [(0, 100), (lLo, lHi), (lLo, lHi)], []), (some (aI 0 0), [(lLo, lHi), (lLo, lHi), (lLo, lHi)], [])], [])
theorem r124 : vC tS tR jM 1 r124c := isin_ok (0) (0) (100) (100)
/-- X12_isIn -/
def r125c : aCt := (155, [aLt, aL 0 0, aL 999 999], [], [(some (aI 1 1), [(0, 999), (lLo, lHi), (lLo, lHi)], []), (some (aI 0 0), [(lLo, lHi), (lLo, lHi), (lLo, lHi)], [])], [])
theorem r125 : vC tS tR jM 1 r125c := isin_ok (0) (0) (999) (999)
/-- X12_shares -/
def r126c : aCt := (250, [aR [314], aIt, aIt], [], [(some (aI (-1) (-1)), [(lLo, lHi), (iLo, iHi), (iLo, iHi)], []), (some (aIt), [(lLo, lHi), (lLo, lHi), (lLo, lHi)], []), (some (aI 0 0), [(lLo, lHi), (lLo, lHi), (lLo, lHi)], [])], [(314, 0, 1)])
set_option maxRecDepth 100000 in
theorem r126 : vC tS tR jM 2 r126c := chk_ok (D := 1) (hst := jM_st (by decide +kernel)) (T := [r1c, r125c]) (N := [(32, [(0, aR [314]), (1, aI 0 7), (2, aI 0 999), (3, aIt), (4, aI 0 8)], [(314, 0, 0, 0)], 0, [(4, 1, 8, true)])]) (sp := []) (fu := 26) (fa_cons (vUp r1 (by decide)) (fa_cons (vUp r125 (by decide)) (fa_nil))) (by decide +kernel)
/-- X12_dark -/
def r127c : aCt := (258, [aR [314]], [], [(some (aI 0 255), [(lLo, lHi)], [])], [])
set_option maxRecDepth 100000 in
theorem r127 : vC tS tR jM 4 r127c := chk_ok (D := 3) (hst := jM_st (by decide +kernel)) (T := [r27c]) (N := [(14, [(0, aR [314]), (1, aI 0 255), (2, aI 0 8)], [], 0, [(2, 1, 8, true)])]) (sp := []) (fu := 31) (fa_cons (vUp r27 (by decide)) (fa_nil)) (by decide +kernel)
/-- X12_openYards -/
def r128c : aCt := (257, [aR [314]], [], [(some (aIt), [(lLo, lHi)], [])], [])
set_option maxRecDepth 100000 in
theorem r128 : vC tS tR jM 2 r128c := chk_ok (D := 1) (hst := jM_st (by decide +kernel)) (T := [r14c]) (N := [(4, [(0, aR [314]), (1, aIt), (2, aI 0 12)], [], 0, [(2, 1, 12, true)])]) (sp := []) (fu := 32) (fa_cons (vUp r14 (by decide)) (fa_nil)) (by decide +kernel)
/-- J9_max_7cf53 -/
def r129c : aCt := (267, [aI 0 0, aI 0 100000], [], [(some (aI 0 0), [(0, 0), (0, 0)], []), (some (aI 1 100000), [(0, 0), (1, 100000)], [])], [])
set_option maxRecDepth 100000 in
theorem r129 : vC tS tR jM 1 r129c := chk_ok (D := 0) (hst := jM_st (by decide +kernel)) (T := []) (N := []) (sp := []) (fu := 13) (fa_nil) (by decide +kernel)
/-- J9_max_7cf53 -/
def r130c : aCt := (267, [aI 0 100000, aI 0 100000], [], [(some (aI 0 100000), [(0, 100000), (0, 100000)], [])], [])
set_option maxRecDepth 100000 in
theorem r130 : vC tS tR jM 1 r130c := chk_ok (D := 0) (hst := jM_st (by decide +kernel)) (T := []) (N := []) (sp := []) (fu := 13) (fa_nil) (by decide +kernel)
/-- X12_farthest -/
def r131c : aCt := (253, [aR [314], aI 0 7], [], [(some (aI 0 100000), [(lLo, lHi), (lLo, lHi)], [])], [])
set_option maxRecDepth 100000 in
theorem r131 : vC tS tR jM 3 r131c := chk_ok (D := 2) (hst := jM_st (by decide +kernel)) (T := [r30c, r29c, r130c]) (N := [(4, [(0, aR [314]), (1, aI 0 7), (2, aI 0 100000), (3, aI 0 8)], [], 0, [(3, 1, 8, true)])]) (sp := []) (fu := 27) (fa_cons (vUp r30 (by decide)) (fa_cons (vUp r29 (by decide)) (fa_cons (vUp r130 (by decide)) (fa_nil)))) (by decide +kernel)
/-- X12_valueOf -/
def r132c : aCt := (254, [aR [314], aI 9 9, aI 0 7], [], [(some (aI (-100000) 0), [(lLo, lHi), (9, 9), (0, 7)], [])], [])
set_option maxRecDepth 100000 in
theorem r132 : vC tS tR jM 4 r132c := chk_ok (D := 3) (hst := jM_st (by decide +kernel)) (T := [r131c]) (N := []) (sp := []) (fu := 14) (fa_cons (vUp r131 (by decide)) (fa_nil)) (by decide +kernel)
/-- X12_valueOf -/
def r133c : aCt := (254, [aR [314], aI 8 8, aI 0 7], [], [(some (aI 0 100000), [(lLo, lHi), (8, 8), (0, 7)], [])], [])
set_option maxRecDepth 100000 in
theorem r133 : vC tS tR jM 4 r133c := chk_ok (D := 3) (hst := jM_st (by decide +kernel)) (T := [r131c]) (N := []) (sp := []) (fu := 13) (fa_cons (vUp r131 (by decide)) (fa_nil)) (by decide +kernel)
/-- X12_valueOf -/
def r134c : aCt := (254, [aR [314], aI 7 7, aI 0 7], [], [(some (aIt), [(lLo, lHi), (7, 7), (0, 7)], [])], [])
set_option maxRecDepth 100000 in
theorem r134 : vC tS tR jM 1 r134c := chk_ok (D := 0) (hst := jM_st (by decide +kernel)) (T := []) (N := []) (sp := []) (fu := 20) (fa_nil) (by decide +kernel)
