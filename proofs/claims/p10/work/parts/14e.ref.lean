/-! L2: contracts of the reference -/
/-- X12_isIn -/
def r108c : aCt := (155, [aLt, aL 0 0, aL 38 38], [], [(some (aI 1 1), [(0, 38), (lLo, lHi), (lLo, lHi)], []), (some (aI 0 0), [(lLo, lHi), (lLo, lHi), (lLo, lHi)], [])], [])
theorem r108 : vC tS tR jM 1 r108c := isin_ok (0) (0) (38) (38)
/-- X12_isIn -/
def r109c : aCt := (155, [aLt, aL 0 0, aL 39 39], [], [(some (aI 1 1), [(0, 39), (lLo, lHi), (lLo, lHi)], []), (some (aI 0 0), [(lLo, lHi), (lLo, lHi), (lLo, lHi)], [])], [])
theorem r109 : vC tS tR jM 1 r109c := isin_ok (0) (0) (39) (39)
/-- X12_isIn -/
def r110c : aCt := (155, [aLt, aL 0 0, aL 40 40], [], [(some (aI 1 1), [(0, 40), (lLo, lHi), (lLo, lHi)], []), (some (aI 0 0), [(lLo, lHi), (lLo, lHi), (lLo, lHi)], [])], [])
theorem r110 : vC tS tR jM 1 r110c := isin_ok (0) (0) (40) (40)
/-- X12_isIn -/
def r111c : aCt := (155, [aLt, aL 0 0, aL 41 41], [], [(some (aI 1 1), [(0, 41), (lLo, lHi), (lLo, lHi)], []), (some (aI 0 0), [(lLo, lHi), (lLo, lHi), (lLo, lHi)], [])], [])
theorem r111 : vC tS tR jM 1 r111c := isin_ok (0) (0) (41) (41)
/-- X12_isIn -/
def r112c : aCt := (155, [aLt, aL 0 0, aL 42 42], [], [(some (aI 1 1), [(0, 42), (lLo, lHi), (lLo, lHi)], []), (some (aI 0 0), [(lLo, lHi), (lLo, lHi), (lLo, lHi)], [])], [])
theorem r112 : vC tS tR jM 1 r112c := isin_ok (0) (0) (42) (42)
/-- X12_isIn -/
def r113c : aCt := (155, [aLt, aL 0 0, aL 43 43], [], [(some (aI 1 1), [(0, 43), (lLo, lHi), (lLo, lHi)], []), (some (aI 0 0), [(lLo, lHi), (lLo, lHi), (lLo, lHi)], [])], [])
theorem r113 : vC tS tR jM 1 r113c := isin_ok (0) (0) (43) (43)
/-- X12_isIn -/
def r114c : aCt := (155, [aLt, aL 0 0, aL 44 44], [], [(some (aI 1 1), [(0, 44), (lLo, lHi), (lLo, lHi)], []), (some (aI 0 0), [(lLo, lHi), (lLo, lHi), (lLo, lHi)], [])], [])
theorem r114 : vC tS tR jM 1 r114c := isin_ok (0) (0) (44) (44)
/-- X12_isIn -/
def r115c : aCt := (155, [aLt, aL 0 0, aL 45 45], [], [(some (aI 1 1), [(0, 45), (lLo, lHi), (lLo, lHi)], []), (some (aI 0 0), [(lLo, lHi), (lLo, lHi), (lLo, lHi)], [])], [])
theorem r115 : vC tS tR jM 1 r115c := isin_ok (0) (0) (45) (45)
/-- X12_isIn -/
def r116c : aCt := (155, [aLt, aL 0 0, aL 46 46], [], [(some (aI 1 1), [(0, 46), (lLo, lHi), (lLo, lHi)], []), (some (aI 0 0), [(lLo, lHi), (lLo, lHi), (lLo, lHi)], [])], [])
theorem r116 : vC tS tR jM 1 r116c := isin_ok (0) (0) (46) (46)
/-- X12_isIn -/
def r117c : aCt := (155, [aLt, aL 0 0, aL 47 47], [], [(some (aI 1 1), [(0, 47), (lLo, lHi), (lLo, lHi)], []), (some (aI 0 0), [(lLo, lHi), (lLo, lHi), (lLo, lHi)], [])], [])
theorem r117 : vC tS tR jM 1 r117c := isin_ok (0) (0) (47) (47)
/-- X12_isIn -/
def r118c : aCt := (155, [aLt, aL 0 0, aL 48 48], [], [(some (aI 1 1), [(0, 48), (lLo, lHi), (lLo, lHi)], []), (some (aI 0 0), [(lLo, lHi), (lLo, lHi), (lLo, lHi)], [])], [])
theorem r118 : vC tS tR jM 1 r118c := isin_ok (0) (0) (48) (48)
/-- X12_isIn -/
def r119c : aCt := (155, [aLt, aL 0 0, aL 49 49], [], [(some (aI 1 1), [(0, 49), (lLo, lHi), (lLo, lHi)], []), (some (aI 0 0), [(lLo, lHi), (lLo, lHi), (lLo, lHi)], [])], [])
theorem r119 : vC tS tR jM 1 r119c := isin_ok (0) (0) (49) (49)
/-- X12_isIn -/
def r120c : aCt := (155, [aLt, aL 0 0, aL 50 50], [], [(some (aI 1 1), [(0, 50), (lLo, lHi), (lLo, lHi)], []), (some (aI 0 0), [(lLo, lHi), (lLo, lHi), (lLo, lHi)], [])], [])
theorem r120 : vC tS tR jM 1 r120c := isin_ok (0) (0) (50) (50)
/-- X12_isIn -/
def r121c : aCt := (155, [aLt, aL 0 0, aL 51 51], [], [(some (aI 1 1), [(0, 51), (lLo, lHi), (lLo, lHi)], []), (some (aI 0 0), [(lLo, lHi), (lLo, lHi), (lLo, lHi)], [])], [])
theorem r121 : vC tS tR jM 1 r121c := isin_ok (0) (0) (51) (51)
/-- X12_isIn -/
def r122c : aCt := (155, [aLt, aL 0 0, aL 52 52], [], [(some (aI 1 1), [(0, 52), (lLo, lHi), (lLo, lHi)], []), (some (aI 0 0), [(lLo, lHi), (lLo, lHi), (lLo, lHi)], [])], [])
theorem r122 : vC tS tR jM 1 r122c := isin_ok (0) (0) (52) (52)
/-- X12_isIn -/
def r123c : aCt := (155, [aLt, aL 0 0, aL 53 53], [], [(some (aI 1 1), [(0, 53), (lLo, lHi), (lLo, lHi)], []), (some (aI 0 0), [(lLo, lHi), (lLo, lHi), (lLo, lHi)], [])], [])
theorem r123 : vC tS tR jM 1 r123c := isin_ok (0) (0) (53) (53)
/-- X12_isIn -/
def r124c : aCt := (155, [aLt, aL 0 0, aL 54 54], [], [(some (aI 1 1), [(0, 54), (lLo, lHi), (lLo, lHi)], []), (some (aI 0 0), [(lLo, lHi), (lLo, lHi), (lLo, lHi)], [])], [])
theorem r124 : vC tS tR jM 1 r124c := isin_ok (0) (0) (54) (54)
/-- X12_isIn -/
def r125c : aCt := (155, [aLt, aL 0 0, aL 55 55], [], [(some (aI 1 1), [(0, 55), (lLo, lHi), (lLo, lHi)], []), (some (aI 0 0), [(lLo, lHi), (lLo, lHi), (lLo, lHi)], [])], [])
theorem r125 : vC tS tR jM 1 r125c := isin_ok (0) (0) (55) (55)
/-- X12_isIn -/
def r126c : aCt := (155, [aLt, aL 0 0, aL 56 56], [], [(some (aI 1 1), [(0, 56), (lLo, lHi), (lLo, lHi)], []), (some (aI 0 0), [(lLo, lHi), (lLo, lHi), (lLo, lHi)], [])], [])
theorem r126 : vC tS tR jM 1 r126c := isin_ok (0) (0) (56) (56)
/-- X12_isIn -/
def r127c : aCt := (155, [aLt, aL 0 0, aL 57 57], [], [(some (aI 1 1), [(0, 57), (lLo, lHi), (lLo, lHi)], []), (some (aI 0 0), [(lLo, lHi), (lLo, lHi), (lLo, lHi)], [])], [])
theorem r127 : vC tS tR jM 1 r127c := isin_ok (0) (0) (57) (57)
/-- X12_isIn -/
def r128c : aCt := (155, [aLt, aL 0 0, aL 58 58], [], [(some (aI 1 1), [(0, 58), (lLo, lHi), (lLo, lHi)], []), (some (aI 0 0), [(lLo, lHi), (lLo, lHi), (lLo, lHi)], [])], [])
theorem r128 : vC tS tR jM 1 r128c := isin_ok (0) (0) (58) (58)
/-- X12_isIn -/
def r129c : aCt := (155, [aLt, aL 0 0, aL 59 59], [], [(some (aI 1 1), [(0, 59), (lLo, lHi), (lLo, lHi)], []), (some (aI 0 0), [(lLo, lHi), (lLo, lHi), (lLo, lHi)], [])], [])
theorem r129 : vC tS tR jM 1 r129c := isin_ok (0) (0) (59) (59)
/-- X12_log -/
def r130c : aCt := (221, [aR [314], aIt, aIt], [], [(some (aI (-1) (-1)), [(lLo, lHi), (iLo, iHi), (iLo, iHi)], []), (some (aIt), [(lLo, lHi), (0, 59), (0, 2)], [])], [(314, 0, 1)])
set_option maxRecDepth 100000 in
theorem r130 : vC tS tR jM 2 r130c := chkV_ok (D := 1) (hst := jM_st (by decide +kernel)) (T := [r73c, r2c, r74c, r21c, r18c, r75c, r76c, r77c, r78c, r79c, r25c, r80c, r81c, r82c, r83c, r84c, r85c, r86c, r87c, r88c, r89c, r90c, r91c, r92c, r93c, r94c, r95c, r96c, r97c, r98c, r99c, r100c, r101c, r102c, r103c, r104c, r105c, r106c, r107c, r108c, r109c, r110c, r111c, r112c, r113c, r114c, r115c, r116c, r117c, r118c, r119c, r120c, r121c, r122c, r123c, r124c, r125c, r126c, r127c, r128c, r129c]) (N := []) (sp := []) (fu := 47) (a := 326) (i := 27) (lo := 0) (n := 61) (fa_cons (vUp r73 (by decide)) (fa_cons (vUp r2 (by decide)) (fa_cons (vUp r74 (by decide)) (fa_cons (vUp r21 (by decide)) (fa_cons (vUp r18 (by decide)) (fa_cons (vUp r75 (by decide)) (fa_cons (vUp r76 (by decide)) (fa_cons (vUp r77 (by decide)) (fa_cons (vUp r78 (by decide)) (fa_cons (vUp r79 (by decide)) (fa_cons (vUp r25 (by decide)) (fa_cons (vUp r80 (by decide)) (fa_cons (vUp r81 (by decide)) (fa_cons (vUp r82 (by decide)) (fa_cons (vUp r83 (by decide)) (fa_cons (vUp r84 (by decide)) (fa_cons (vUp r85 (by decide)) (fa_cons (vUp r86 (by decide)) (fa_cons (vUp r87 (by decide)) (fa_cons (vUp r88 (by decide)) (fa_cons (vUp r89 (by decide)) (fa_cons (vUp r90 (by decide)) (fa_cons (vUp r91 (by decide)) (fa_cons (vUp r92 (by decide)) (fa_cons (vUp r93 (by decide)) (fa_cons (vUp r94 (by decide)) (fa_cons (vUp r95 (by decide)) (fa_cons (vUp r96 (by decide)) (fa_cons (vUp r97 (by decide)) (fa_cons (vUp r98 (by decide)) (fa_cons (vUp r99 (by decide)) (fa_cons (vUp r100 (by decide)) (fa_cons (vUp r101 (by decide)) (fa_cons (vUp r102 (by decide)) (fa_cons (vUp r103 (by decide)) (fa_cons (vUp r104 (by decide)) (fa_cons (vUp r105 (by decide)) (fa_cons (vUp r106 (by decide)) (fa_cons (vUp r107 (by decide)) (fa_cons (vUp r108 (by decide)) (fa_cons (vUp r109 (by decide)) (fa_cons (vUp r110 (by decide)) (fa_cons (vUp r111 (by decide)) (fa_cons (vUp r112 (by decide)) (fa_cons (vUp r113 (by decide)) (fa_cons (vUp r114 (by decide)) (fa_cons (vUp r115 (by decide)) (fa_cons (vUp r116 (by decide)) (fa_cons (vUp r117 (by decide)) (fa_cons (vUp r118 (by decide)) (fa_cons (vUp r119 (by decide)) (fa_cons (vUp r120 (by decide)) (fa_cons (vUp r121 (by decide)) (fa_cons (vUp r122 (by decide)) (fa_cons (vUp r123 (by decide)) (fa_cons (vUp r124 (by decide)) (fa_cons (vUp r125 (by decide)) (fa_cons (vUp r126 (by decide)) (fa_cons (vUp r127 (by decide)) (fa_cons (vUp r128 (by decide)) (fa_cons (vUp r129 (by decide)) (fa_nil)))))))))))))))))))))))))))))))))))))))))))))))))))))))))))))) (by decide +kernel)
/-- X12_isWalk -/
def r131c : aCt := (222, [aR [314], aIt], [], [(some (aI 0 0), [(lLo, lHi), (iLo, iHi)], []), (some (aI 1 1), [(lLo, lHi), (0, 3)], [])], [])
set_option maxRecDepth 100000 in
theorem r131 : vC tS tR jM 1 r131c := chk_ok (D := 0) (hst := jM_st (by decide +kernel)) (T := []) (N := []) (sp := []) (fu := 16) (fa_nil) (by decide +kernel)
/-- X12_isIn -/
def r132c : aCt := (155, [aLt, aL (-1) (-1), aL (-1) 15], [], [(some (aI 1 1), [((-1), 15), (lLo, lHi), (lLo, lHi)], []), (some (aI 0 0), [(lLo, lHi), (lLo, lHi), (lLo, lHi)], [])], [])
theorem r132 : vC tS tR jM 1 r132c := isin_ok (-1) (-1) (-1) (15)
/-- X12_walk -/
def r133c : aCt := (223, [aR [314], aIt, aIt], [], [(some (aI (-1) (-1)), [(lLo, lHi), (iLo, iHi), (iLo, iHi)], []), (some (aIt), [(lLo, lHi), (0, 3), ((-1), 15)], [])], [(314, 0, 1)])
set_option maxRecDepth 100000 in
theorem r133 : vC tS tR jM 2 r133c := chk_ok (D := 1) (hst := jM_st (by decide +kernel)) (T := [r131c, r132c]) (N := []) (sp := []) (fu := 38) (fa_cons (vUp r131 (by decide)) (fa_cons (vUp r132 (by decide)) (fa_nil))) (by decide +kernel)
/-- X12_between -/
def r134c : aCt := (224, [aR [314], aIt, aIt], [], [(some (aIt), [(lLo, lHi), (lLo, lHi), (lLo, lHi)], [])], [])
set_option maxRecDepth 100000 in
theorem r134 : vC tS tR jM 2 r134c := chk_ok (D := 1) (hst := jM_st (by decide +kernel)) (T := [r14c]) (N := [(5, [(0, aR [314]), (1, aIt), (2, aIt), (3, aIt), (4, aI 0 12)], [], 0, [(4, 1, 12, true)])]) (sp := []) (fu := 84) (fa_cons (vUp r14 (by decide)) (fa_nil)) (by decide +kernel)
