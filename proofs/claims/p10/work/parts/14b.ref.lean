/-! L2: contracts of the reference -/
/-- X12_chapels -/
def r27c : aCt := (197, [aR [314], aIt], [], [(some (aI 0 255), [(lLo, lHi), (lLo, lHi)], [])], [])
set_option maxRecDepth 100000 in
theorem r27 : vC tS tR jM 3 r27c := chk_ok (D := 2) (hst := jM_st (by decide +kernel)) (T := [r15c]) (N := [(4, [(0, aR [314]), (1, aIt), (2, aI 0 255), (3, aI 0 8)], [], 0, [(3, 1, 8, true)])]) (sp := []) (fu := 27) (fa_cons (vUp r15 (by decide)) (fa_nil)) (by decide +kernel)
/-- X12_has -/
def r28c : aCt := (156, [aI 0 255, aI 0 7], [], [(some (aI 0 0), [(0, 255), (0, 7)], []), (some (aI 1 1), [(0, 255), (0, 7)], [])], [])
set_option maxRecDepth 100000 in
theorem r28 : vC tS tR jM 1 r28c := chk_ok (D := 0) (hst := jM_st (by decide +kernel)) (T := []) (N := []) (sp := []) (fu := 17) (fa_nil) (by decide +kernel)
/-- X12_far0 -/
def r29c : aCt := (199, [aR [314], aI 0 7, aI 0 7], [], [(some (aI 0 100000), [(lLo, lHi), (0, 7), (0, 7)], [])], [])
set_option maxRecDepth 100000 in
theorem r29 : vC tS tR jM 1 r29c := chk_ok (D := 0) (hst := jM_st (by decide +kernel)) (T := []) (N := []) (sp := []) (fu := 16) (fa_nil) (by decide +kernel)
/-- X12_canCome -/
def r30c : aCt := (200, [aR [314], aI 0 7, aI 0 7], [], [(some (aI 0 0), [(lLo, lHi), (0, 7), (0, 7)], []), (some (aI 1 1), [(lLo, lHi), (0, 7), (0, 7)], [])], [])
set_option maxRecDepth 100000 in
theorem r30 : vC tS tR jM 2 r30c := chk_ok (D := 1) (hst := jM_st (by decide +kernel)) (T := [r29c]) (N := []) (sp := []) (fu := 16) (fa_cons (vUp r29 (by decide)) (fa_nil)) (by decide +kernel)
/-- J6_bitCount_0f7a4 -/
def r31c : aCt := (264, [aIt], [], [(some (aI 0 63), [(lLo, lHi)], [])], [])
set_option maxRecDepth 100000 in
theorem r31 : vC tS tR jM 1 r31c := chk_ok (D := 0) (hst := jM_st (by decide +kernel)) (T := []) (N := []) (sp := []) (fu := 49) (fa_nil) (by decide +kernel)
/-- J9_min_7cf53 -/
def r32c : aCt := (269, [aI 99 99, aIt], [], [(some (aI iLo 99), [(99, 99), (iLo, iHi)], [])], [])
set_option maxRecDepth 100000 in
theorem r32 : vC tS tR jM 1 r32c := chk_ok (D := 0) (hst := jM_st (by decide +kernel)) (T := []) (N := []) (sp := []) (fu := 13) (fa_nil) (by decide +kernel)
/-- J9_max_7cf53 -/
def r33c : aCt := (267, [aI (-99) (-99), aI iLo 99], [], [(some (aI (-99) 99), [((-99), (-99)), (iLo, 99)], [])], [])
set_option maxRecDepth 100000 in
theorem r33 : vC tS tR jM 1 r33c := chk_ok (D := 0) (hst := jM_st (by decide +kernel)) (T := []) (N := []) (sp := []) (fu := 13) (fa_nil) (by decide +kernel)
/-- J9_min_7cf53 -/
def r34c : aCt := (269, [aI 99 99, aI (-100000) 3006], [], [(some (aI (-100000) 99), [(99, 99), ((-100000), 3006)], [])], [])
set_option maxRecDepth 100000 in
theorem r34 : vC tS tR jM 1 r34c := chk_ok (D := 0) (hst := jM_st (by decide +kernel)) (T := []) (N := []) (sp := []) (fu := 13) (fa_nil) (by decide +kernel)
/-- J9_max_7cf53 -/
def r35c : aCt := (267, [aI (-99) (-99), aI (-100000) 99], [], [(some (aI (-99) 99), [((-99), (-99)), ((-100000), 99)], [])], [])
set_option maxRecDepth 100000 in
theorem r35 : vC tS tR jM 1 r35c := chk_ok (D := 0) (hst := jM_st (by decide +kernel)) (T := []) (N := []) (sp := []) (fu := 13) (fa_nil) (by decide +kernel)
/-- J9_max_7cf53 -/
def r36c : aCt := (267, [aI 0 0, aI (-1) 8], [], [(some (aI 0 0), [(0, 0), ((-1), 0)], []), (some (aI 1 8), [(0, 0), (1, 8)], [])], [])
set_option maxRecDepth 100000 in
theorem r36 : vC tS tR jM 1 r36c := chk_ok (D := 0) (hst := jM_st (by decide +kernel)) (T := []) (N := []) (sp := []) (fu := 13) (fa_nil) (by decide +kernel)
/-- J9_min_7cf53 -/
def r37c : aCt := (269, [aI 999 999, aI 1 1000], [], [(some (aI 1 999), [(999, 999), (1, 1000)], [])], [])
set_option maxRecDepth 100000 in
theorem r37 : vC tS tR jM 1 r37c := chk_ok (D := 0) (hst := jM_st (by decide +kernel)) (T := []) (N := []) (sp := []) (fu := 13) (fa_nil) (by decide +kernel)
/-- J9_min_7cf53 -/
def r38c : aCt := (269, [aI 999 999, aIt], [], [(some (aI iLo 999), [(999, 999), (iLo, iHi)], [])], [])
set_option maxRecDepth 100000 in
theorem r38 : vC tS tR jM 1 r38c := chk_ok (D := 0) (hst := jM_st (by decide +kernel)) (T := []) (N := []) (sp := []) (fu := 13) (fa_nil) (by decide +kernel)
/-- X12_isIn -/
def r39c : aCt := (155, [aLt, aL 1 1, aL 50 50], [], [(some (aI 1 1), [(1, 50), (lLo, lHi), (lLo, lHi)], []), (some (aI 0 0), [(lLo, lHi), (lLo, lHi), (lLo, lHi)], [])], [])
theorem r39 : vC tS tR jM 1 r39c := isin_ok (1) (1) (50) (50)
/-- X12_isIn -/
def r40c : aCt := (155, [aLt, aL 1 1, aL 30 30], [], [(some (aI 1 1), [(1, 30), (lLo, lHi), (lLo, lHi)], []), (some (aI 0 0), [(lLo, lHi), (lLo, lHi), (lLo, lHi)], [])], [])
theorem r40 : vC tS tR jM 1 r40c := isin_ok (1) (1) (30) (30)
/-- X12_isIn -/
def r41c : aCt := (155, [aLt, aL 0 0, aL (-1) (-1)], [], [(some (aI 1 1), [(0, (-1)), (lLo, lHi), (lLo, lHi)], []), (some (aI 0 0), [(lLo, lHi), (lLo, lHi), (lLo, lHi)], [])], [])
theorem r41 : vC tS tR jM 1 r41c := isin_ok (0) (0) (-1) (-1)
/-- X12_isIn -/
def r42c : aCt := (155, [aLt, aL 0 0, aL 0 0], [], [(some (aI 1 1), [(0, 0), (lLo, lHi), (lLo, lHi)], []), (some (aI 0 0), [(lLo, lHi), (lLo, lHi), (lLo, lHi)], [])], [])
theorem r42 : vC tS tR jM 1 r42c := isin_ok (0) (0) (0) (0)
/-- X12_isIn -/
def r43c : aCt := (155, [aLt, aL 0 0, aL 4 4], [], [(some (aI 1 1), [(0, 4), (lLo, lHi), (lLo, lHi)], []), (some (aI 0 0), [(lLo, lHi), (lLo, lHi), (lLo, lHi)], [])], [])
theorem r43 : vC tS tR jM 1 r43c := isin_ok (0) (0) (4) (4)
/-- X12_isIn -/
def r44c : aCt := (155, [aLt, aL 0 0, aL 5 5], [], [(some (aI 1 1), [(0, 5), (lLo, lHi), (lLo, lHi)], []), (some (aI 0 0), [(lLo, lHi), (lLo, lHi), (lLo, lHi)], [])], [])
theorem r44 : vC tS tR jM 1 r44c := isin_ok (0) (0) (5) (5)
/-- X12_isIn -/
def r45c : aCt := (155, [aLt, aL 0 0, aL 6 6], [], [(some (aI 1 1), [(0, 6), (lLo, lHi), (lLo, lHi)], []), (some (aI 0 0), [(lLo, lHi), (lLo, lHi), (lLo, lHi)], [])], [])
theorem r45 : vC tS tR jM 1 r45c := isin_ok (0) (0) (6) (6)
/-- X12_isIn -/
def r46c : aCt := (155, [aLt, aL 0 0, aL 7 7], [], [(some (aI 1 1), [(0, 7), (lLo, lHi), (lLo, lHi)], []), (some (aI 0 0), [(lLo, lHi), (lLo, lHi), (lLo, lHi)], [])], [])
theorem r46 : vC tS tR jM 1 r46c := isin_ok (0) (0) (7) (7)
/-- X12_isIn -/
def r47c : aCt := (155, [aLt, aL 0 0, aL 8 8], [], [(some (aI 1 1), [(0, 8), (lLo, lHi), (lLo, lHi)], []), (some (aI 0 0), [(lLo, lHi), (lLo, lHi), (lLo, lHi)], [])], [])
theorem r47 : vC tS tR jM 1 r47c := isin_ok (0) (0) (8) (8)
/-- X12_isIn -/
def r48c : aCt := (155, [aLt, aL 0 0, aL 10 10], [], [(some (aI 1 1), [(0, 10), (lLo, lHi), (lLo, lHi)], []), (some (aI 0 0), [(lLo, lHi), (lLo, lHi), (lLo, lHi)], [])], [])
theorem r48 : vC tS tR jM 1 r48c := isin_ok (0) (0) (10) (10)
/-- X12_isIn -/
def r49c : aCt := (155, [aLt, aL 0 0, aL 11 11], [], [(some (aI 1 1), [(0, 11), (lLo, lHi), (lLo, lHi)], []), (some (aI 0 0), [(lLo, lHi), (lLo, lHi), (lLo, lHi)], [])], [])
theorem r49 : vC tS tR jM 1 r49c := isin_ok (0) (0) (11) (11)
/-- X12_isIn -/
def r50c : aCt := (155, [aLt, aL 0 0, aL 12 12], [], [(some (aI 1 1), [(0, 12), (lLo, lHi), (lLo, lHi)], []), (some (aI 0 0), [(lLo, lHi), (lLo, lHi), (lLo, lHi)], [])], [])
theorem r50 : vC tS tR jM 1 r50c := isin_ok (0) (0) (12) (12)
/-- X12_isIn -/
def r51c : aCt := (155, [aLt, aL 0 0, aL 13 13], [], [(some (aI 1 1), [(0, 13), (lLo, lHi), (lLo, lHi)], []), (some (aI 0 0), [(lLo, lHi), (lLo, lHi), (lLo, lHi)], [])], [])
theorem r51 : vC tS tR jM 1 r51c := isin_ok (0) (0) (13) (13)
/-- X12_isIn -/
def r52c : aCt := (155, [aLt, aL 0 0, aL 14 14], [], [(some (aI 1 1), [(0, 14), (lLo, lHi), (lLo, lHi)], []), (some (aI 0 0), [(lLo, lHi), (lLo, lHi), (lLo, lHi)], [])], [])
theorem r52 : vC tS tR jM 1 r52c := isin_ok (0) (0) (14) (14)
/-- X12_isIn -/
def r53c : aCt := (155, [aLt, aL 0 0, aL 15 15], [], [(some (aI 1 1), [(0, 15), (lLo, lHi), (lLo, lHi)], []), (some (aI 0 0), [(lLo, lHi), (lLo, lHi), (lLo, lHi)], [])], [])
theorem r53 : vC tS tR jM 1 r53c := isin_ok (0) (0) (15) (15)
