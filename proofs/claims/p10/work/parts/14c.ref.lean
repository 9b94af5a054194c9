/-! L2: contracts of the reference -/
/-- X12_chapels -/
def r54c : aCt := (197, [aR [314], aIt], [], [(some (aI 0 255), [(lLo, lHi), (lLo, lHi)], [])], [])
set_option maxRecDepth 100000 in
theorem r54 : vC tS tR jM 3 r54c := chk_ok (D := 2) (hst := jM_st (by decide +kernel)) (T := [r15c]) (N := [(4, [(0, aR [314]), (1, aIt), (2, aI 0 255), (3, aI 0 8)], [], 0, [(3, 1, 8, true)])]) (sp := []) (fu := 27) (fa_cons (vUp r15 (by decide)) (fa_nil)) (by decide +kernel)
/-- X12_has -/
def r55c : aCt := (156, [aI 0 255, aI 0 7], [], [(some (aI 0 0), [(0, 255), (0, 7)], []), (some (aI 1 1), [(0, 255), (0, 7)], [])], [])
set_option maxRecDepth 100000 in
theorem r55 : vC tS tR jM 1 r55c := chk_ok (D := 0) (hst := jM_st (by decide +kernel)) (T := []) (N := []) (sp := []) (fu := 17) (fa_nil) (by decide +kernel)
/-- X12_far0 -/
def r56c : aCt := (199, [aR [314], aI 0 7, aI 0 7], [], [(some (aI 0 100000), [(lLo, lHi), (0, 7), (0, 7)], [])], [])
set_option maxRecDepth 100000 in
theorem r56 : vC tS tR jM 1 r56c := chk_ok (D := 0) (hst := jM_st (by decide +kernel)) (T := []) (N := []) (sp := []) (fu := 16) (fa_nil) (by decide +kernel)
/-- X12_canCome -/
def r57c : aCt := (200, [aR [314], aI 0 7, aI 0 7], [], [(some (aI 0 0), [(lLo, lHi), (0, 7), (0, 7)], []), (some (aI 1 1), [(lLo, lHi), (0, 7), (0, 7)], [])], [])
set_option maxRecDepth 100000 in
theorem r57 : vC tS tR jM 2 r57c := chk_ok (D := 1) (hst := jM_st (by decide +kernel)) (T := [r56c]) (N := []) (sp := []) (fu := 16) (fa_cons (vUp r56 (by decide)) (fa_nil)) (by decide +kernel)
/-- J6_bitCount_0f7a4 -/
def r58c : aCt := (264, [aIt], [], [(some (aI 0 63), [(lLo, lHi)], [])], [])
set_option maxRecDepth 100000 in
theorem r58 : vC tS tR jM 1 r58c := chk_ok (D := 0) (hst := jM_st (by decide +kernel)) (T := []) (N := []) (sp := []) (fu := 49) (fa_nil) (by decide +kernel)
/-- J9_min_7cf53 -/
def r59c : aCt := (269, [aI 99 99, aIt], [], [(some (aI iLo 99), [(99, 99), (iLo, iHi)], [])], [])
set_option maxRecDepth 100000 in
theorem r59 : vC tS tR jM 1 r59c := chk_ok (D := 0) (hst := jM_st (by decide +kernel)) (T := []) (N := []) (sp := []) (fu := 13) (fa_nil) (by decide +kernel)
/-- J9_max_7cf53 -/
def r60c : aCt := (267, [aI (-99) (-99), aI iLo 99], [], [(some (aI (-99) 99), [((-99), (-99)), (iLo, 99)], [])], [])
set_option maxRecDepth 100000 in
theorem r60 : vC tS tR jM 1 r60c := chk_ok (D := 0) (hst := jM_st (by decide +kernel)) (T := []) (N := []) (sp := []) (fu := 13) (fa_nil) (by decide +kernel)
/-- J9_min_7cf53 -/
def r61c : aCt := (269, [aI 99 99, aI (-100000) 3006], [], [(some (aI (-100000) 99), [(99, 99), ((-100000), 3006)], [])], [])
set_option maxRecDepth 100000 in
theorem r61 : vC tS tR jM 1 r61c := chk_ok (D := 0) (hst := jM_st (by decide +kernel)) (T := []) (N := []) (sp := []) (fu := 13) (fa_nil) (by decide +kernel)
/-- J9_max_7cf53 -/
def r62c : aCt := (267, [aI (-99) (-99), aI (-100000) 99], [], [(some (aI (-99) 99), [((-99), (-99)), ((-100000), 99)], [])], [])
set_option maxRecDepth 100000 in
theorem r62 : vC tS tR jM 1 r62c := chk_ok (D := 0) (hst := jM_st (by decide +kernel)) (T := []) (N := []) (sp := []) (fu := 13) (fa_nil) (by decide +kernel)
/-- J9_max_7cf53 -/
def r63c : aCt := (267, [aI 0 0, aI (-1) 8], [], [(some (aI 0 0), [(0, 0), ((-1), 0)], []), (some (aI 1 8), [(0, 0), (1, 8)], [])], [])
set_option maxRecDepth 100000 in
theorem r63 : vC tS tR jM 1 r63c := chk_ok (D := 0) (hst := jM_st (by decide +kernel)) (T := []) (N := []) (sp := []) (fu := 13) (fa_nil) (by decide +kernel)
/-- J9_min_7cf53 -/
def r64c : aCt := (269, [aI 999 999, aI 1 1000], [], [(some (aI 1 999), [(999, 999), (1, 1000)], [])], [])
set_option maxRecDepth 100000 in
theorem r64 : vC tS tR jM 1 r64c := chk_ok (D := 0) (hst := jM_st (by decide +kernel)) (T := []) (N := []) (sp := []) (fu := 13) (fa_nil) (by decide +kernel)
/-- J9_min_7cf53 -/
def r65c : aCt := (269, [aI 999 999, aIt], [], [(some (aI iLo 999), [(999, 999), (iLo, iHi)], [])], [])
set_option maxRecDepth 100000 in
theorem r65 : vC tS tR jM 1 r65c := chk_ok (D := 0) (hst := jM_st (by decide +kernel)) (T := []) (N := []) (sp := []) (fu := 13) (fa_nil) (by decide +kernel)
/-- X12_isIn -/
def r66c : aCt := (155, [aLt, aL 1 1, aL 50 50], [], [(some (aI 1 1), [(1, 50), (lLo, lHi), (lLo, lHi)], []), (some (aI 0 0), [(lLo, lHi), (lLo, lHi), (lLo, lHi)], [])], [])
theorem r66 : vC tS tR jM 1 r66c := isin_ok (1) (1) (50) (50)
/-- X12_isIn -/
def r67c : aCt := (155, [aLt, aL 1 1, aL 30 30], [], [(some (aI 1 1), [(1, 30), (lLo, lHi), (lLo, lHi)], []), (some (aI 0 0), [(lLo, lHi), (lLo, lHi), (lLo, lHi)], [])], [])
theorem r67 : vC tS tR jM 1 r67c := isin_ok (1) (1) (30) (30)
/-- X12_draw -/
def r68c : aCt := (218, [aR [314], aI 10 10], [], [(some (aI 0 9), [(lLo, lHi), (10, 10)], [])], [])
set_option maxRecDepth 100000 in
theorem r68 : vC tS tR jM 1 r68c := chk_ok (D := 0) (hst := jM_st (by decide +kernel)) (T := []) (N := []) (sp := []) (fu := 24) (fa_nil) (by decide +kernel)
/-- X12_draw -/
def r69c : aCt := (218, [aR [314], aI 1 4], [], [(some (aI 0 3), [(lLo, lHi), (1, 4)], [])], [])
set_option maxRecDepth 100000 in
theorem r69 : vC tS tR jM 1 r69c := chk_ok (D := 0) (hst := jM_st (by decide +kernel)) (T := []) (N := []) (sp := []) (fu := 24) (fa_nil) (by decide +kernel)
/-- X12_draw -/
def r70c : aCt := (218, [aR [314], aI 2 8], [], [(some (aI 0 7), [(lLo, lHi), (2, 8)], [])], [])
set_option maxRecDepth 100000 in
theorem r70 : vC tS tR jM 1 r70c := chk_ok (D := 0) (hst := jM_st (by decide +kernel)) (T := []) (N := []) (sp := []) (fu := 24) (fa_nil) (by decide +kernel)
/-- X12_draw -/
def r71c : aCt := (218, [aR [314], aI 1 12], [], [(some (aI 0 11), [(lLo, lHi), (1, 12)], [])], [])
set_option maxRecDepth 100000 in
theorem r71 : vC tS tR jM 1 r71c := chk_ok (D := 0) (hst := jM_st (by decide +kernel)) (T := []) (N := []) (sp := []) (fu := 24) (fa_nil) (by decide +kernel)
/-- X12_years -/
def r72c : aCt := (219, [aR [314], aIt, aLt], [(314, 26, 0, 0)], [(some (aIt), [(lLo, lHi), (lLo, lHi), (lLo, lHi)], [])], [(314, 0, 1), (314, 8, 15), (314, 17, 18), (314, 39, 41), (314, 42, 43), (318, 99, 101), (318, 102, 103), (318, 108, 109), (318, 119, 120), (318, 121, 122), (326, 0, 1), (326, 2, 3), (326, 4, 5), (326, 6, 7), (326, 8, 9), (326, 10, 11), (326, 12, 13), (326, 14, 15), (326, 16, 208), (328, 0, 64), (330, 0, 8191), (331, 0, 8320)])
set_option maxRecDepth 100000 in
theorem r72 : vC tS tR jM 1 r72c := chk_ok (D := 0) (hst := jM_st (by decide +kernel)) (T := []) (N := []) (sp := []) (fu := 15) (fa_nil) (by decide +kernel)
/-- X12_isIn -/
def r73c : aCt := (155, [aLt, aL 0 0, aL (-1) (-1)], [], [(some (aI 1 1), [(0, (-1)), (lLo, lHi), (lLo, lHi)], []), (some (aI 0 0), [(lLo, lHi), (lLo, lHi), (lLo, lHi)], [])], [])
theorem r73 : vC tS tR jM 1 r73c := isin_ok (0) (0) (-1) (-1)
/-- X12_isIn -/
def r74c : aCt := (155, [aLt, aL 0 0, aL 0 0], [], [(some (aI 1 1), [(0, 0), (lLo, lHi), (lLo, lHi)], []), (some (aI 0 0), [(lLo, lHi), (lLo, lHi), (lLo, lHi)], [])], [])
theorem r74 : vC tS tR jM 1 r74c := isin_ok (0) (0) (0) (0)
/-- X12_isIn -/
def r75c : aCt := (155, [aLt, aL 0 0, aL 4 4], [], [(some (aI 1 1), [(0, 4), (lLo, lHi), (lLo, lHi)], []), (some (aI 0 0), [(lLo, lHi), (lLo, lHi), (lLo, lHi)], [])], [])
theorem r75 : vC tS tR jM 1 r75c := isin_ok (0) (0) (4) (4)
/-- X12_isIn -/
def r76c : aCt := (155, [aLt, aL 0 0, aL 5 5], [], [(some (aI 1 1), [(0, 5), (lLo, lHi), (lLo, lHi)], []), (some (aI 0 0), [(lLo, lHi), (lLo, lHi), (lLo, lHi)], [])], [])
theorem r76 : vC tS tR jM 1 r76c := isin_ok (0) (0) (5) (5)
/-- X12_isIn -/
def r77c : aCt := (155, [aLt, aL 0 0, aL 6 6], [], [(some (aI 1 1), [(0, 6), (lLo, lHi), (lLo, lHi)], []), (some (aI 0 0), [(lLo, lHi), (lLo, lHi), (lLo, lHi)], [])], [])
theorem r77 : vC tS tR jM 1 r77c := isin_ok (0) (0) (6) (6)
/-- X12_isIn -/
def r78c : aCt := (155, [aLt, aL 0 0, aL 7 7], [], [(some (aI 1 1), [(0, 7), (lLo, lHi), (lLo, lHi)], []), (some (aI 0 0), [(lLo, lHi), (lLo, lHi), (lLo, lHi)], [])], [])
theorem r78 : vC tS tR jM 1 r78c := isin_ok (0) (0) (7) (7)
/-- X12_isIn -/
def r79c : aCt := (155, [aLt, aL 0 0, aL 8 8], [], [(some (aI 1 1), [(0, 8), (lLo, lHi), (lLo, lHi)], []), (some (aI 0 0), [(lLo, lHi), (lLo, lHi), (lLo, lHi)], [])], [])
theorem r79 : vC tS tR jM 1 r79c := isin_ok (0) (0) (8) (8)
/-- X12_isIn -/
def r80c : aCt := (155, [aLt, aL 0 0, aL 10 10], [], [(some (aI 1 1), [(0, 10), (lLo, lHi), (lLo, lHi)], []), (some (aI 0 0), [(lLo, lHi), (lLo, lHi), (lLo, lHi)], [])], [])
theorem r80 : vC tS tR jM 1 r80c := isin_ok (0) (0) (10) (10)
