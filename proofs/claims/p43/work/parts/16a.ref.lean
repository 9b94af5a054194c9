/-! L2: contracts of the reference -/
/-- X12_end -/
def r0c : aCt := (161, [aR [314], aIt], [], [(some (aI 1 1), [(lLo, lHi), (0, 240)], []), (some (aI 0 0), [(lLo, lHi), (iLo, iHi)], [])], [(314, 0, 1), (314, 6, 7)])
set_option maxRecDepth 100000 in
theorem r0 : vC tS tR jM 1 r0c := chkF_ok (D := 0) (hst := jM_st (by decide +kernel)) (T := []) (N := []) (sp := []) (fu := 21) (fa_nil) (by decide +kernel)
/-- X12_isCorner -/
def r1c : aCt := (193, [aR [314], aIt], [], [(some (aI 0 0), [(lLo, lHi), (iLo, iHi)], []), (some (aI 1 1), [(lLo, lHi), (0, 7)], [])], [])
set_option maxRecDepth 100000 in
theorem r1 : vC tS tR jM 1 r1c := chkF_ok (D := 0) (hst := jM_st (by decide +kernel)) (T := []) (N := []) (sp := []) (fu := 16) (fa_nil) (by decide +kernel)
/-- X12_isIn -/
def r2c : aCt := (155, [aLt, aL 0 0, aL 2 2], [], [(some (aI 1 1), [(0, 2), (lLo, lHi), (lLo, lHi)], []), (some (aI 0 0), [(lLo, lHi), (lLo, lHi), (lLo, lHi)], [])], [])
theorem r2 : vC tS tR jM 1 r2c := isin_ok (0) (0) (2) (2)
/-- X12_has -/
def r3c : aCt := (156, [aIt, aI 0 0], [], [(some (aI 0 0), [(iLo, iHi), (0, 0)], []), (some (aI 1 1), [(iLo, iHi), (0, 0)], [])], [])
set_option maxRecDepth 100000 in
theorem r3 : vC tS tR jM 1 r3c := chkF_ok (D := 0) (hst := jM_st (by decide +kernel)) (T := []) (N := []) (sp := []) (fu := 17) (fa_nil) (by decide +kernel)
/-- X12_has -/
def r4c : aCt := (156, [aIt, aI 0 1], [], [(some (aI 0 0), [(iLo, iHi), (0, 1)], []), (some (aI 1 1), [(iLo, iHi), (0, 1)], [])], [])
set_option maxRecDepth 100000 in
theorem r4 : vC tS tR jM 1 r4c := chkF_ok (D := 0) (hst := jM_st (by decide +kernel)) (T := []) (N := []) (sp := []) (fu := 17) (fa_nil) (by decide +kernel)
/-- X12_has -/
def r5c : aCt := (156, [aIt, aI 0 2], [], [(some (aI 0 0), [(iLo, iHi), (0, 2)], []), (some (aI 1 1), [(iLo, iHi), (0, 2)], [])], [])
set_option maxRecDepth 100000 in
theorem r5 : vC tS tR jM 1 r5c := chkF_ok (D := 0) (hst := jM_st (by decide +kernel)) (T := []) (N := []) (sp := []) (fu := 17) (fa_nil) (by decide +kernel)
/-- X12_has -/
def r6c : aCt := (156, [aIt, aI 0 3], [], [(some (aI 0 0), [(iLo, iHi), (0, 3)], []), (some (aI 1 1), [(iLo, iHi), (0, 3)], [])], [])
set_option maxRecDepth 100000 in
theorem r6 : vC tS tR jM 1 r6c := chkF_ok (D := 0) (hst := jM_st (by decide +kernel)) (T := []) (N := []) (sp := []) (fu := 17) (fa_nil) (by decide +kernel)
/-- X12_has -/
def r7c : aCt := (156, [aIt, aI 0 4], [], [(some (aI 0 0), [(iLo, iHi), (0, 4)], []), (some (aI 1 1), [(iLo, iHi), (0, 4)], [])], [])
set_option maxRecDepth 100000 in
theorem r7 : vC tS tR jM 1 r7c := chkF_ok (D := 0) (hst := jM_st (by decide +kernel)) (T := []) (N := []) (sp := []) (fu := 17) (fa_nil) (by decide +kernel)
/-- X12_has -/
def r8c : aCt := (156, [aIt, aI 0 5], [], [(some (aI 0 0), [(iLo, iHi), (0, 5)], []), (some (aI 1 1), [(iLo, iHi), (0, 5)], [])], [])
set_option maxRecDepth 100000 in
theorem r8 : vC tS tR jM 1 r8c := chkF_ok (D := 0) (hst := jM_st (by decide +kernel)) (T := []) (N := []) (sp := []) (fu := 17) (fa_nil) (by decide +kernel)
/-- X12_has -/
def r9c : aCt := (156, [aIt, aI 0 7], [], [(some (aI 0 0), [(iLo, iHi), (0, 7)], []), (some (aI 1 1), [(iLo, iHi), (0, 7)], [])], [])
set_option maxRecDepth 100000 in
theorem r9 : vC tS tR jM 1 r9c := chkF_ok (D := 0) (hst := jM_st (by decide +kernel)) (T := []) (N := []) (sp := []) (fu := 17) (fa_nil) (by decide +kernel)
/-- X12_has -/
def r10c : aCt := (156, [aIt, aI 0 8], [], [(some (aI 0 0), [(iLo, iHi), (0, 8)], []), (some (aI 1 1), [(iLo, iHi), (0, 8)], [])], [])
set_option maxRecDepth 100000 in
theorem r10 : vC tS tR jM 1 r10c := chkF_ok (D := 0) (hst := jM_st (by decide +kernel)) (T := []) (N := []) (sp := []) (fu := 17) (fa_nil) (by decide +kernel)
/-- X12_has -/
def r11c : aCt := (156, [aIt, aI 0 9], [], [(some (aI 0 0), [(iLo, iHi), (0, 9)], []), (some (aI 1 1), [(iLo, iHi), (0, 9)], [])], [])
set_option maxRecDepth 100000 in
theorem r11 : vC tS tR jM 1 r11c := chkF_ok (D := 0) (hst := jM_st (by decide +kernel)) (T := []) (N := []) (sp := []) (fu := 17) (fa_nil) (by decide +kernel)
/-- X12_has -/
def r12c : aCt := (156, [aIt, aI 0 10], [], [(some (aI 0 0), [(iLo, iHi), (0, 10)], []), (some (aI 1 1), [(iLo, iHi), (0, 10)], [])], [])
set_option maxRecDepth 100000 in
theorem r12 : vC tS tR jM 1 r12c := chkF_ok (D := 0) (hst := jM_st (by decide +kernel)) (T := []) (N := []) (sp := []) (fu := 17) (fa_nil) (by decide +kernel)
/-- X12_has -/
def r13c : aCt := (156, [aIt, aI 0 11], [], [(some (aI 0 0), [(iLo, iHi), (0, 11)], []), (some (aI 1 1), [(iLo, iHi), (0, 11)], [])], [])
set_option maxRecDepth 100000 in
theorem r13 : vC tS tR jM 1 r13c := chkF_ok (D := 0) (hst := jM_st (by decide +kernel)) (T := []) (N := []) (sp := []) (fu := 17) (fa_nil) (by decide +kernel)
/-- X12_openAt -/
def r14c : aCt := (196, [aR [314], aIt, aIt], [], [(some (aIt), [(lLo, lHi), (lLo, lHi), (lLo, lHi)], [])], [])
set_option maxRecDepth 100000 in
theorem r14 : vC tS tR jM 2 r14c := chkF_ok (D := 1) (hst := jM_st (by decide +kernel)) (T := [r13c]) (N := [(5, [(0, aR [314]), (1, aIt), (2, aIt), (3, aIt), (4, aI 0 12)], [], 0, [(4, 1, 12, true)])]) (sp := []) (fu := 41) (fa_cons (vUq r13 (by decide)) (fa_nil)) (by decide +kernel)
/-- X12_corner -/
def r15c : aCt := (205, [aR [314], aIt, aIt], [], [(some (aI (-1) (-1)), [(lLo, lHi), (iLo, iHi), (iLo, iHi)], []), (some (aIt), [(lLo, lHi), (0, 7), (0, 2)], [])], [(314, 0, 1)])
set_option maxRecDepth 100000 in
theorem r15 : vC tS tR jM 3 r15c := chkF_ok (D := 2) (hst := jM_st (by decide +kernel)) (T := [r1c, r2c, r14c]) (N := []) (sp := []) (fu := 32) (fa_cons (vUq r1 (by decide)) (fa_cons (vUq r2 (by decide)) (fa_cons (vUq r14 (by decide)) (fa_nil)))) (by decide +kernel)
/-- X12_isStreet -/
def r16c : aCt := (194, [aR [314], aIt], [], [(some (aI 0 0), [(lLo, lHi), (iLo, iHi)], []), (some (aI 1 1), [(lLo, lHi), (0, 11)], [])], [])
set_option maxRecDepth 100000 in
theorem r16 : vC tS tR jM 1 r16c := chkF_ok (D := 0) (hst := jM_st (by decide +kernel)) (T := []) (N := []) (sp := []) (fu := 16) (fa_nil) (by decide +kernel)
/-- X12_isIn -/
def r17c : aCt := (155, [aLt, aL 0 0, aL 3 3], [], [(some (aI 1 1), [(0, 3), (lLo, lHi), (lLo, lHi)], []), (some (aI 0 0), [(lLo, lHi), (lLo, lHi), (lLo, lHi)], [])], [])
theorem r17 : vC tS tR jM 1 r17c := isin_ok (0) (0) (3) (3)
/-- X12_street -/
def r18c : aCt := (206, [aR [314], aIt, aIt], [], [(some (aI (-1) (-1)), [(lLo, lHi), (iLo, iHi), (iLo, iHi)], []), (some (aIt), [(lLo, lHi), (0, 11), (0, 3)], [])], [(314, 0, 1)])
set_option maxRecDepth 100000 in
theorem r18 : vC tS tR jM 2 r18c := chkF_ok (D := 1) (hst := jM_st (by decide +kernel)) (T := [r16c, r17c]) (N := []) (sp := []) (fu := 33) (fa_cons (vUq r16 (by decide)) (fa_cons (vUq r17 (by decide)) (fa_nil))) (by decide +kernel)
/-- X12_isWalker -/
def r19c : aCt := (195, [aR [314], aIt], [], [(some (aI 0 0), [(lLo, lHi), (iLo, iHi)], []), (some (aI 1 1), [(lLo, lHi), (0, 3)], [])], [])
set_option maxRecDepth 100000 in
theorem r19 : vC tS tR jM 1 r19c := chkF_ok (D := 0) (hst := jM_st (by decide +kernel)) (T := []) (N := []) (sp := []) (fu := 16) (fa_nil) (by decide +kernel)
/-- X12_isIn -/
def r20c : aCt := (155, [aLt, aL 0 0, aL 1 1], [], [(some (aI 1 1), [(0, 1), (lLo, lHi), (lLo, lHi)], []), (some (aI 0 0), [(lLo, lHi), (lLo, lHi), (lLo, lHi)], [])], [])
theorem r20 : vC tS tR jM 1 r20c := isin_ok (0) (0) (1) (1)
/-- X12_walker -/
def r21c : aCt := (207, [aR [314], aIt, aIt], [], [(some (aI 0 0), [(lLo, lHi), (iLo, iHi), (iLo, iHi)], []), (some (aI 0 9), [(lLo, lHi), (0, 3), (0, 1)], [])], [(314, 0, 1)])
set_option maxRecDepth 100000 in
theorem r21 : vC tS tR jM 2 r21c := chkF_ok (D := 1) (hst := jM_st (by decide +kernel)) (T := [r19c, r20c]) (N := []) (sp := []) (fu := 35) (fa_cons (vUq r19 (by decide)) (fa_cons (vUq r20 (by decide)) (fa_nil))) (by decide +kernel)
/-- X12_isIn -/
def r22c : aCt := (155, [aLt, aL 0 0, aL (-1) 3], [], [(some (aI 1 1), [(0, 3), (lLo, lHi), (lLo, lHi)], []), (some (aI 0 0), [(lLo, lHi), (lLo, lHi), (lLo, lHi)], [])], [])
theorem r22 : vC tS tR jM 1 r22c := isin_ok (0) (0) (-1) (3)
/-- X12_law -/
def r23c : aCt := (208, [aR [314], aIt], [], [(some (aI 0 0), [(lLo, lHi), (iLo, iHi)], []), (some (aI 1 1), [(lLo, lHi), ((-1), 3)], [])], [(314, 0, 1), (314, 34, 35)])
set_option maxRecDepth 100000 in
theorem r23 : vC tS tR jM 2 r23c := chkF_ok (D := 1) (hst := jM_st (by decide +kernel)) (T := [r22c]) (N := []) (sp := []) (fu := 28) (fa_cons (vUq r22 (by decide)) (fa_nil)) (by decide +kernel)
/-- X12_isIn -/
def r24c : aCt := (155, [aLt, aL 0 0, aL 9 9], [], [(some (aI 1 1), [(0, 9), (lLo, lHi), (lLo, lHi)], []), (some (aI 0 0), [(lLo, lHi), (lLo, lHi), (lLo, lHi)], [])], [])
theorem r24 : vC tS tR jM 1 r24c := isin_ok (0) (0) (9) (9)
/-- X12_council -/
def r25c : aCt := (209, [aR [314], aIt], [], [(some (aI 0 0), [(lLo, lHi), (iLo, iHi)], []), (some (aI 1 1), [(lLo, lHi), (0, 9)], [])], [(314, 0, 1), (314, 35, 36)])
set_option maxRecDepth 100000 in
theorem r25 : vC tS tR jM 2 r25c := chkF_ok (D := 1) (hst := jM_st (by decide +kernel)) (T := [r24c]) (N := []) (sp := []) (fu := 25) (fa_cons (vUq r24 (by decide)) (fa_nil)) (by decide +kernel)
/-- J9_min_7cf53 -/
def r26c : aCt := (269, [aI 0 100000, aI 0 200000], [], [(some (aI 0 100000), [(0, 100000), (0, 200000)], [])], [])
set_option maxRecDepth 100000 in
theorem r26 : vC tS tR jM 1 r26c := chkF_ok (D := 0) (hst := jM_st (by decide +kernel)) (T := []) (N := []) (sp := []) (fu := 13) (fa_nil) (by decide +kernel)
