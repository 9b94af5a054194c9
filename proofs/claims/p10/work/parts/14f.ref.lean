/-! L2: contracts of the reference -/
/-- X12_valueOf -/
def r135c : aCt := (254, [aR [314], aI 6 6, aI 0 7], [], [(some (aIt), [(lLo, lHi), (6, 6), (0, 7)], [])], [])
set_option maxRecDepth 100000 in
theorem r135 : vC tS tR jM 3 r135c := chk_ok (D := 2) (hst := jM_st (by decide +kernel)) (T := [r15c]) (N := []) (sp := []) (fu := 17) (fa_cons (vUp r15 (by decide)) (fa_nil)) (by decide +kernel)
/-- X12_valueOf -/
def r136c : aCt := (254, [aR [314], aI 5 5, aI 0 7], [], [(some (aIt), [(lLo, lHi), (5, 5), (0, 7)], [])], [])
set_option maxRecDepth 100000 in
theorem r136 : vC tS tR jM 3 r136c := chk_ok (D := 2) (hst := jM_st (by decide +kernel)) (T := [r15c]) (N := []) (sp := []) (fu := 18) (fa_cons (vUp r15 (by decide)) (fa_nil)) (by decide +kernel)
/-- X12_valueOf -/
def r137c : aCt := (254, [aR [314], aI 4 4, aI 0 7], [], [(some (aI 0 999), [(lLo, lHi), (4, 4), (0, 7)], [])], [])
set_option maxRecDepth 100000 in
theorem r137 : vC tS tR jM 1 r137c := chk_ok (D := 0) (hst := jM_st (by decide +kernel)) (T := []) (N := []) (sp := []) (fu := 18) (fa_nil) (by decide +kernel)
/-- X12_openStreets -/
def r138c : aCt := (256, [aR [314]], [], [(some (aIt), [(lLo, lHi)], [])], [])
set_option maxRecDepth 100000 in
theorem r138 : vC tS tR jM 2 r138c := chk_ok (D := 1) (hst := jM_st (by decide +kernel)) (T := [r14c]) (N := [(4, [(0, aR [314]), (1, aIt), (2, aI 0 12)], [], 0, [(2, 1, 12, true)])]) (sp := []) (fu := 26) (fa_cons (vUp r14 (by decide)) (fa_nil)) (by decide +kernel)
/-- X12_has -/
def r139c : aCt := (156, [aI 0 0, aI 0 0], [], [(some (aI 0 0), [(0, 0), (0, 0)], [])], [])
set_option maxRecDepth 100000 in
theorem r139 : vC tS tR jM 1 r139c := chk_ok (D := 0) (hst := jM_st (by decide +kernel)) (T := []) (N := []) (sp := []) (fu := 16) (fa_nil) (by decide +kernel)
/-- X12_has -/
def r140c : aCt := (156, [aI 0 255, aIt], [], [(some (aI 0 0), [(0, 255), (iLo, iHi)], []), (some (aI 1 1), [(0, 255), (iLo, iHi)], [])], [])
set_option maxRecDepth 100000 in
theorem r140 : vC tS tR jM 1 r140c := chk_ok (D := 0) (hst := jM_st (by decide +kernel)) (T := []) (N := []) (sp := []) (fu := 17) (fa_nil) (by decide +kernel)
/-- X12_isIn -/
def r141c : aCt := (155, [aLt, aL 0 0, aL 99 99], [], [(some (aI 1 1), [(0, 99), (lLo, lHi), (lLo, lHi)], []), (some (aI 0 0), [(lLo, lHi), (lLo, lHi), (lLo, lHi)], [])], [])
theorem r141 : vC tS tR jM 1 r141c := isin_ok (0) (0) (99) (99)
/-- X12_image -/
def r142c : aCt := (261, [aR [314]], [], [(some (aI (-1) (-1)), [(lLo, lHi)], []), (some (aIt), [(lLo, lHi)], [])], [(314, 0, 1), (314, 53, 54), (333, 0, 208)])
set_option maxRecDepth 100000 in
theorem r142 : vC tS tR jM 1 r142c := chkC_ok (D := 0) (hst := jM_st (by decide +kernel)) (T := []) (fu := 21) (pc := 16) (j := 1) (n := 208) (L := [(0, aR [314])]) (F := [(314, 0, 0, 0), (314, 26, 1, 12)]) (fa_nil) (by decide +kernel) (by decide +kernel) (by decide +kernel) (rng_of (by decide +kernel))
/-- X12_back -/
def r143c : aCt := (262, [aR [314]], [], [(some (aI (-1) (-1)), [(lLo, lHi)], []), (some (aIt), [(lLo, lHi)], [])], [(314, 0, 1), (314, 42, 43), (326, 0, 208)])
set_option maxRecDepth 100000 in
theorem r143 : vC tS tR jM 1 r143c := chkC_ok (D := 0) (hst := jM_st (by decide +kernel)) (T := []) (fu := 21) (pc := 16) (j := 1) (n := 208) (L := [(0, aR [314])]) (F := [(314, 0, 0, 0), (314, 53, 1, 1)]) (fa_nil) (by decide +kernel) (by decide +kernel) (by decide +kernel) (rng_of (by decide +kernel))
/-- X12_count -/
def r144c : aCt := (263, [aR [314], aIt], [], [(some (aIt), [(lLo, lHi), (0, 12)], []), (some (aI (-1000000) (-1000000)), [(lLo, lHi), (iLo, iHi)], [])], [(314, 0, 1)])
set_option maxRecDepth 100000 in
theorem r144 : vC tS tR jM 1 r144c := chk_ok (D := 0) (hst := jM_st (by decide +kernel)) (T := []) (N := []) (sp := []) (fu := 17) (fa_nil) (by decide +kernel)
