/-! L2: contracts of the reference -/
/-- X12_end -/
def r0c : aCt := (161, [aR [314], aIt], [], [(some (aI 1 1), [(lLo, lHi), (0, 240)], []), (some (aI 0 0), [(lLo, lHi), (iLo, iHi)], [])], [(314, 0, 1), (314, 6, 7)])
set_option maxRecDepth 100000 in
theorem r0 : vC tS tR jM 1 r0c := chk_ok (D := 0) (hst := jM_st (by decide +kernel)) (T := []) (N := []) (sp := []) (fu := 21) (fa_nil) (by decide +kernel)
/-- X12_isCorner -/
def r1c : aCt := (193, [aR [314], aIt], [], [(some (aI 0 0), [(lLo, lHi), (iLo, iHi)], []), (some (aI 1 1), [(lLo, lHi), (0, 7)], [])], [])
set_option maxRecDepth 100000 in
theorem r1 : vC tS tR jM 1 r1c := chk_ok (D := 0) (hst := jM_st (by decide +kernel)) (T := []) (N := []) (sp := []) (fu := 16) (fa_nil) (by decide +kernel)
/-- X12_isIn -/
def r2c : aCt := (155, [aLt, aL 0 0, aL 2 2], [], [(some (aI 1 1), [(0, 2), (lLo, lHi), (lLo, lHi)], []), (some (aI 0 0), [(lLo, lHi), (lLo, lHi), (lLo, lHi)], [])], [])
theorem r2 : vC tS tR jM 1 r2c := isin_ok (0) (0) (2) (2)
/-- X12_has -/
def r3c : aCt := (156, [aIt, aI 0 0], [], [(some (aI 0 0), [(iLo, iHi), (0, 0)], []), (some (aI 1 1), [(iLo, iHi), (0, 0)], [])], [])
set_option maxRecDepth 100000 in
theorem r3 : vC tS tR jM 1 r3c := chk_ok (D := 0) (hst := jM_st (by decide +kernel)) (T := []) (N := []) (sp := []) (fu := 17) (fa_nil) (by decide +kernel)
/-- X12_has -/
def r4c : aCt := (156, [aIt, aI 0 1], [], [(some (aI 0 0), [(iLo, iHi), (0, 1)], []), (some (aI 1 1), [(iLo, iHi), (0, 1)], [])], [])
set_option maxRecDepth 100000 in
theorem r4 : vC tS tR jM 1 r4c := chk_ok (D := 0) (hst := jM_st (by decide +kernel)) (T := []) (N := []) (sp := []) (fu := 17) (fa_nil) (by decide +kernel)
/-- X12_has -/
def r5c : aCt := (156, [aIt, aI 0 2], [], [(some (aI 0 0), [(iLo, iHi), (0, 2)], []), (some (aI 1 1), [(iLo, iHi), (0, 2)], [])], [])
set_option maxRecDepth 100000 in
theorem r5 : vC tS tR jM 1 r5c := chk_ok (D := 0) (hst := jM_st (by decide +kernel)) (T := []) (N := []) (sp := []) (fu := 17) (fa_nil) (by decide +kernel)
/-- X12_has -/
def r6c : aCt := (156, [aIt, aI 0 3], [], [(some (aI 0 0), [(iLo, iHi), (0, 3)], []), (some (aI 1 1), [(iLo, iHi), (0, 3)], [])], [])
set_option maxRecDepth 100000 in
theorem r6 : vC tS tR jM 1 r6c := chk_ok (D := 0) (hst := jM_st (by decide +kernel)) (T := []) (N := []) (sp := []) (fu := 17) (fa_nil) (by decide +kernel)
/-- X12_has -/
def r7c : aCt := (156, [aIt, aI 0 4], [], [(some (aI 0 0), [(iLo, iHi), (0, 4)], []), (some (aI 1 1), [(iLo, iHi), (0, 4)], [])], [])
set_option maxRecDepth 100000 in
theorem r7 : vC tS tR jM 1 r7c := chk_ok (D := 0) (hst := jM_st (by decide +kernel)) (T := []) (N := []) (sp := []) (fu := 17) (fa_nil) (by decide +kernel)
/-- X12_has -/
def r8c : aCt := (156, [aIt, aI 0 5], [], [(some (aI 0 0), [(iLo, iHi), (0, 5)], []), (some (aI 1 1), [(iLo, iHi), (0, 5)], [])], [])
set_option maxRecDepth 100000 in
theorem r8 : vC tS tR jM 1 r8c := chk_ok (D := 0) (hst := jM_st (by decide +kernel)) (T := []) (N := []) (sp := []) (fu := 17) (fa_nil) (by decide +kernel)
/-- X12_has -/
def r9c : aCt := (156, [aIt, aI 0 6], [], [(some (aI 0 0), [(iLo, iHi), (0, 6)], []), (some (aI 1 1), [(iLo, iHi), (0, 6)], [])], [])
set_option maxRecDepth 100000 in
theorem r9 : vC tS tR jM 1 r9c := chk_ok (D := 0) (hst := jM_st (by decide +kernel)) (T := []) (N := []) (sp := []) (fu := 17) (fa_nil) (by decide +kernel)
/-- X12_has -/
def r10c : aCt := (156, [aIt, aI 0 7], [], [(some (aI 0 0), [(iLo, iHi), (0, 7)], []), (some (aI 1 1), [(iLo, iHi), (0, 7)], [])], [])
set_option maxRecDepth 100000 in
theorem r10 : vC tS tR jM 1 r10c := chk_ok (D := 0) (hst := jM_st (by decide +kernel)) (T := []) (N := []) (sp := []) (fu := 17) (fa_nil) (by decide +kernel)
/-- X12_has -/
def r11c : aCt := (156, [aIt, aI 0 8], [], [(some (aI 0 0), [(iLo, iHi), (0, 8)], []), (some (aI 1 1), [(iLo, iHi), (0, 8)], [])], [])
set_option maxRecDepth 100000 in
theorem r11 : vC tS tR jM 1 r11c := chk_ok (D := 0) (hst := jM_st (by decide +kernel)) (T := []) (N := []) (sp := []) (fu := 17) (fa_nil) (by decide +kernel)
/-- X12_has -/
def r12c : aCt := (156, [aIt, aI 0 9], [], [(some (aI 0 0), [(iLo, iHi), (0, 9)], []), (some (aI 1 1), [(iLo, iHi), (0, 9)], [])], [])
set_option maxRecDepth 100000 in
theorem r12 : vC tS tR jM 1 r12c := chk_ok (D := 0) (hst := jM_st (by decide +kernel)) (T := []) (N := []) (sp := []) (fu := 17) (fa_nil) (by decide +kernel)
/-- X12_has -/
def r13c : aCt := (156, [aIt, aI 0 10], [], [(some (aI 0 0), [(iLo, iHi), (0, 10)], []), (some (aI 1 1), [(iLo, iHi), (0, 10)], [])], [])
set_option maxRecDepth 100000 in
theorem r13 : vC tS tR jM 1 r13c := chk_ok (D := 0) (hst := jM_st (by decide +kernel)) (T := []) (N := []) (sp := []) (fu := 17) (fa_nil) (by decide +kernel)
/-- X12_has -/
def r14c : aCt := (156, [aIt, aI 0 11], [], [(some (aI 0 0), [(iLo, iHi), (0, 11)], []), (some (aI 1 1), [(iLo, iHi), (0, 11)], [])], [])
set_option maxRecDepth 100000 in
theorem r14 : vC tS tR jM 1 r14c := chk_ok (D := 0) (hst := jM_st (by decide +kernel)) (T := []) (N := []) (sp := []) (fu := 17) (fa_nil) (by decide +kernel)
/-- X12_openAt -/
def r15c : aCt := (196, [aR [314], aIt, aIt], [], [(some (aIt), [(lLo, lHi), (lLo, lHi), (lLo, lHi)], [])], [])
set_option maxRecDepth 100000 in
theorem r15 : vC tS tR jM 2 r15c := chk_ok (D := 1) (hst := jM_st (by decide +kernel)) (T := [r14c]) (N := [(5, [(0, aR [314]), (1, aIt), (2, aIt), (3, aIt), (4, aI 0 12)], [], 0, [(4, 1, 12, true)])]) (sp := []) (fu := 41) (fa_cons (vUp r14 (by decide)) (fa_nil)) (by decide +kernel)
/-- X12_corner -/
def r16c : aCt := (205, [aR [314], aIt, aIt], [], [(some (aI (-1) (-1)), [(lLo, lHi), (iLo, iHi), (iLo, iHi)], []), (some (aIt), [(lLo, lHi), (0, 7), (0, 2)], [])], [(314, 0, 1)])
set_option maxRecDepth 100000 in
theorem r16 : vC tS tR jM 3 r16c := chk_ok (D := 2) (hst := jM_st (by decide +kernel)) (T := [r1c, r2c, r15c]) (N := []) (sp := []) (fu := 32) (fa_cons (vUp r1 (by decide)) (fa_cons (vUp r2 (by decide)) (fa_cons (vUp r15 (by decide)) (fa_nil)))) (by decide +kernel)
/-- X12_isStreet -/
def r17c : aCt := (194, [aR [314], aIt], [], [(some (aI 0 0), [(lLo, lHi), (iLo, iHi)], []), (some (aI 1 1), [(lLo, lHi), (0, 11)], [])], [])
set_option maxRecDepth 100000 in
theorem r17 : vC tS tR jM 1 r17c := chk_ok (D := 0) (hst := jM_st (by decide +kernel)) (T := []) (N := []) (sp := []) (fu := 16) (fa_nil) (by decide +kernel)
/-- X12_isIn -/
def r18c : aCt := (155, [aLt, aL 0 0, aL 3 3], [], [(some (aI 1 1), [(0, 3), (lLo, lHi), (lLo, lHi)], []), (some (aI 0 0), [(lLo, lHi), (lLo, lHi), (lLo, lHi)], [])], [])
theorem r18 : vC tS tR jM 1 r18c := isin_ok (0) (0) (3) (3)
/-- X12_street -/
def r19c : aCt := (206, [aR [314], aIt, aIt], [], [(some (aI (-1) (-1)), [(lLo, lHi), (iLo, iHi), (iLo, iHi)], []), (some (aIt), [(lLo, lHi), (0, 11), (0, 3)], [])], [(314, 0, 1)])
set_option maxRecDepth 100000 in
theorem r19 : vC tS tR jM 2 r19c := chk_ok (D := 1) (hst := jM_st (by decide +kernel)) (T := [r17c, r18c]) (N := []) (sp := []) (fu := 33) (fa_cons (vUp r17 (by decide)) (fa_cons (vUp r18 (by decide)) (fa_nil))) (by decide +kernel)
/-- X12_isWalker -/
def r20c : aCt := (195, [aR [314], aIt], [], [(some (aI 0 0), [(lLo, lHi), (iLo, iHi)], []), (some (aI 1 1), [(lLo, lHi), (0, 3)], [])], [])
set_option maxRecDepth 100000 in
theorem r20 : vC tS tR jM 1 r20c := chk_ok (D := 0) (hst := jM_st (by decide +kernel)) (T := []) (N := []) (sp := []) (fu := 16) (fa_nil) (by decide +kernel)
/-- X12_isIn -/
def r21c : aCt := (155, [aLt, aL 0 0, aL 1 1], [], [(some (aI 1 1), [(0, 1), (lLo, lHi), (lLo, lHi)], []), (some (aI 0 0), [(lLo, lHi), (lLo, lHi), (lLo, lHi)], [])], [])
theorem r21 : vC tS tR jM 1 r21c := isin_ok (0) (0) (1) (1)
/-- X12_walker -/
def r22c : aCt := (207, [aR [314], aIt, aIt], [], [(some (aI 0 0), [(lLo, lHi), (iLo, iHi), (iLo, iHi)], []), (some (aI 0 9), [(lLo, lHi), (0, 3), (0, 1)], [])], [(314, 0, 1)])
set_option maxRecDepth 100000 in
theorem r22 : vC tS tR jM 2 r22c := chk_ok (D := 1) (hst := jM_st (by decide +kernel)) (T := [r20c, r21c]) (N := []) (sp := []) (fu := 35) (fa_cons (vUp r20 (by decide)) (fa_cons (vUp r21 (by decide)) (fa_nil))) (by decide +kernel)
/-- X12_isIn -/
def r23c : aCt := (155, [aLt, aL 0 0, aL (-1) 3], [], [(some (aI 1 1), [(0, 3), (lLo, lHi), (lLo, lHi)], []), (some (aI 0 0), [(lLo, lHi), (lLo, lHi), (lLo, lHi)], [])], [])
theorem r23 : vC tS tR jM 1 r23c := isin_ok (0) (0) (-1) (3)
/-- X12_law -/
def r24c : aCt := (208, [aR [314], aIt], [], [(some (aI 0 0), [(lLo, lHi), (iLo, iHi)], []), (some (aI 1 1), [(lLo, lHi), ((-1), 3)], [])], [(314, 0, 1), (314, 34, 35)])
set_option maxRecDepth 100000 in
theorem r24 : vC tS tR jM 2 r24c := chk_ok (D := 1) (hst := jM_st (by decide +kernel)) (T := [r23c]) (N := []) (sp := []) (fu := 28) (fa_cons (vUp r23 (by decide)) (fa_nil)) (by decide +kernel)
/-- X12_isIn -/
def r25c : aCt := (155, [aLt, aL 0 0, aL 9 9], [], [(some (aI 1 1), [(0, 9), (lLo, lHi), (lLo, lHi)], []), (some (aI 0 0), [(lLo, lHi), (lLo, lHi), (lLo, lHi)], [])], [])
theorem r25 : vC tS tR jM 1 r25c := isin_ok (0) (0) (9) (9)
/-- X12_council -/
def r26c : aCt := (209, [aR [314], aIt], [], [(some (aI 0 0), [(lLo, lHi), (iLo, iHi)], []), (some (aI 1 1), [(lLo, lHi), (0, 9)], [])], [(314, 0, 1), (314, 35, 36)])
set_option maxRecDepth 100000 in
theorem r26 : vC tS tR jM 2 r26c := chk_ok (D := 1) (hst := jM_st (by decide +kernel)) (T := [r25c]) (N := []) (sp := []) (fu := 25) (fa_cons (vUp r25 (by decide)) (fa_nil)) (by decide +kernel)
