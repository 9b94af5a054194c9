/-! L2: contracts of the reference -/
/-- X12_has -/
def r54c : aCt := (156, [aI 0 255, aI 0 7], [], [(some (aI 0 0), [(0, 255), (0, 7)], []), (some (aI 1 1), [(0, 255), (0, 7)], [])], [])
set_option maxRecDepth 100000 in
theorem r54 : vC tS tR jM 1 r54c := chkF_ok (D := 0) (hst := jM_st (by decide +kernel)) (T := []) (N := []) (sp := []) (fu := 17) (fa_nil) (by decide +kernel)
/-- X12_far0 -/
def r55c : aCt := (199, [aR [314], aI 0 7, aI 0 7], [], [(some (aI 0 100000), [(lLo, lHi), (0, 7), (0, 7)], [])], [])
set_option maxRecDepth 100000 in
theorem r55 : vC tS tR jM 1 r55c := chkF_ok (D := 0) (hst := jM_st (by decide +kernel)) (T := []) (N := []) (sp := []) (fu := 16) (fa_nil) (by decide +kernel)
/-- X12_canCome -/
def r56c : aCt := (200, [aR [314], aI 0 7, aI 0 7], [], [(some (aI 0 0), [(lLo, lHi), (0, 7), (0, 7)], []), (some (aI 1 1), [(lLo, lHi), (0, 7), (0, 7)], [])], [])
set_option maxRecDepth 100000 in
theorem r56 : vC tS tR jM 2 r56c := chkF_ok (D := 1) (hst := jM_st (by decide +kernel)) (T := [r55c]) (N := []) (sp := []) (fu := 16) (fa_cons (vUq r55 (by decide)) (fa_nil)) (by decide +kernel)
/-- J6_bitCount_0f7a4 -/
def r57c : aCt := (264, [aIt], [], [(some (aI 0 63), [(lLo, lHi)], [])], [])
set_option maxRecDepth 100000 in
theorem r57 : vC tS tR jM 1 r57c := chkF_ok (D := 0) (hst := jM_st (by decide +kernel)) (T := []) (N := []) (sp := []) (fu := 49) (fa_nil) (by decide +kernel)
/-- X12_worthOf -/
def r58c : aCt := (201, [aR [314], aI 0 100000, aI 0 999, aI 0 9, aI 0 999, aI 0 63, aIt], [(314, 34, 0, 3)], [(some (aIt), [(lLo, lHi), (0, 100000), (0, 999), (0, 9), (0, 999), (0, 63), (iLo, iHi)], [])], [(314, 8, 15), (314, 17, 18), (318, 99, 101), (318, 102, 103), (318, 108, 109), (318, 119, 120), (318, 121, 122), (330, 0, 8191)])
set_option maxRecDepth 100000 in
theorem r58 : vC tS tR jM 805 r58c := chkF_ok (D := 804) (hst := jM_st (by decide +kernel)) (T := [gtBc]) (N := []) (sp := []) (fu := 124) (fa_cons (vUq gtB (by decide)) (fa_nil)) (by decide +kernel)
/-- J9_min_7cf53 -/
def r59c : aCt := (269, [aI 99 99, aIt], [], [(some (aI iLo 99), [(99, 99), (iLo, iHi)], [])], [])
set_option maxRecDepth 100000 in
theorem r59 : vC tS tR jM 1 r59c := chkF_ok (D := 0) (hst := jM_st (by decide +kernel)) (T := []) (N := []) (sp := []) (fu := 13) (fa_nil) (by decide +kernel)
/-- J9_max_7cf53 -/
def r60c : aCt := (267, [aI (-99) (-99), aI iLo 99], [], [(some (aI (-99) 99), [((-99), (-99)), (iLo, 99)], [])], [])
set_option maxRecDepth 100000 in
theorem r60 : vC tS tR jM 1 r60c := chkF_ok (D := 0) (hst := jM_st (by decide +kernel)) (T := []) (N := []) (sp := []) (fu := 13) (fa_nil) (by decide +kernel)
/-- J9_min_7cf53 -/
def r61c : aCt := (269, [aI 99 99, aI (-100000) 3006], [], [(some (aI (-100000) 99), [(99, 99), ((-100000), 3006)], [])], [])
set_option maxRecDepth 100000 in
theorem r61 : vC tS tR jM 1 r61c := chkF_ok (D := 0) (hst := jM_st (by decide +kernel)) (T := []) (N := []) (sp := []) (fu := 13) (fa_nil) (by decide +kernel)
/-- J9_max_7cf53 -/
def r62c : aCt := (267, [aI (-99) (-99), aI (-100000) 99], [], [(some (aI (-99) 99), [((-99), (-99)), ((-100000), 99)], [])], [])
set_option maxRecDepth 100000 in
theorem r62 : vC tS tR jM 1 r62c := chkF_ok (D := 0) (hst := jM_st (by decide +kernel)) (T := []) (N := []) (sp := []) (fu := 13) (fa_nil) (by decide +kernel)
/-- X12_drawsOf -/
def r63c : aCt := (202, [aR [314], aR [326], aI 0 3, aI 0 7], [], [(some (aI (-99) 99), [(lLo, lHi), (lLo, lHi), (lLo, lHi), (lLo, lHi)], []), (some (aI (-1000000) (-1000000)), [(lLo, lHi), (lLo, lHi), (lLo, lHi), (lLo, lHi)], [])], [(314, 8, 15), (314, 17, 18), (318, 99, 101), (318, 102, 103), (318, 108, 109), (318, 119, 120), (318, 121, 122), (330, 0, 8191)])
set_option maxRecDepth 100000 in
theorem r63 : vC tS tR jM 806 r63c := chkF_ok (D := 805) (hst := jM_st (by decide +kernel)) (T := [r53c, r54c, r56c, r55c, r57c, r58c, r59c, r60c, r61c, r62c]) (N := [(10, [(0, aR [314]), (1, aR [326]), (2, aI 0 0), (3, aI 0 7), (4, aI 0 255)], [], 0, []),
  (10, [(0, aR [314]), (1, aR [326]), (2, aI 1 1), (3, aI 0 7), (4, aI 0 255)], [], 0, []),
  (10, [(0, aR [314]), (1, aR [326]), (2, aI 2 2), (3, aI 0 7), (4, aI 0 255)], [], 0, []),
  (10, [(0, aR [314]), (1, aR [326]), (2, aI 3 3), (3, aI 0 7), (4, aI 0 255)], [], 0, [])]) (sp := [(10, 2)]) (fu := 94) (fa_cons (vUq r53 (by decide)) (fa_cons (vUq r54 (by decide)) (fa_cons (vUq r56 (by decide)) (fa_cons (vUq r55 (by decide)) (fa_cons (vUq r57 (by decide)) (fa_cons (vUq r58 (by decide)) (fa_cons (vUq r59 (by decide)) (fa_cons (vUq r60 (by decide)) (fa_cons (vUq r61 (by decide)) (fa_cons (vUq r62 (by decide)) (fa_nil))))))))))) (by decide +kernel)
/-- X12_goesOf -/
def r64c : aCt := (203, [aR [314], aR [326], aI 0 3], [], [(some (aI (-1) 7), [(lLo, lHi), (lLo, lHi), (lLo, lHi)], [])], [(314, 8, 15), (314, 17, 18), (318, 99, 101), (318, 102, 103), (318, 108, 109), (318, 119, 120), (318, 121, 122), (330, 0, 8191)])
set_option maxRecDepth 100000 in
theorem r64 : vC tS tR jM 807 r64c := chkF_ok (D := 806) (hst := jM_st (by decide +kernel)) (T := [r63c]) (N := [(8, [(0, aR [314]), (1, aR [326]), (2, aI 0 3), (3, aI (-1) 7), (4, aI (-99) 99), (5, aI 0 8)], [], 0, [(5, 1, 8, true)])]) (sp := []) (fu := 33) (fa_cons (vUq r63 (by decide)) (fa_nil)) (by decide +kernel)
/-- J9_max_7cf53 -/
def r65c : aCt := (267, [aI 0 0, aI (-1) 8], [], [(some (aI 0 0), [(0, 0), ((-1), 0)], []), (some (aI 1 8), [(0, 0), (1, 8)], [])], [])
set_option maxRecDepth 100000 in
theorem r65 : vC tS tR jM 1 r65c := chkF_ok (D := 0) (hst := jM_st (by decide +kernel)) (T := []) (N := []) (sp := []) (fu := 13) (fa_nil) (by decide +kernel)
/-- J9_min_7cf53 -/
def r66c : aCt := (269, [aI 999 999, aI 1 1000], [], [(some (aI 1 999), [(999, 999), (1, 1000)], [])], [])
set_option maxRecDepth 100000 in
theorem r66 : vC tS tR jM 1 r66c := chkF_ok (D := 0) (hst := jM_st (by decide +kernel)) (T := []) (N := []) (sp := []) (fu := 13) (fa_nil) (by decide +kernel)
/-- J9_min_7cf53 -/
def r67c : aCt := (269, [aI 999 999, aIt], [], [(some (aI iLo 999), [(999, 999), (iLo, iHi)], [])], [])
set_option maxRecDepth 100000 in
theorem r67 : vC tS tR jM 1 r67c := chkF_ok (D := 0) (hst := jM_st (by decide +kernel)) (T := []) (N := []) (sp := []) (fu := 13) (fa_nil) (by decide +kernel)
/-- X12_goDay -/
def r68c : aCt := (204, [aR [314], aR [326]], [], [(some (aI 0 0), [(lLo, lHi), (lLo, lHi)], []), (some (aI 0 4), [(lLo, lHi), (lLo, lHi)], [])], [(314, 8, 15), (314, 17, 18), (314, 39, 41), (318, 99, 101), (318, 102, 103), (318, 108, 109), (318, 119, 120), (318, 121, 122), (326, 0, 1), (326, 2, 3), (326, 4, 5), (326, 6, 7), (326, 8, 9), (326, 10, 11), (326, 12, 13), (326, 14, 15), (326, 17, 18), (326, 19, 20), (326, 21, 22), (326, 23, 24), (326, 25, 208), (328, 0, 64), (330, 0, 8191)])
set_option maxRecDepth 100000 in
theorem r68 : vC tS tR jM 808 r68c := chkF_ok (D := 807) (hst := jM_st (by decide +kernel)) (T := [r52c, r64c, r65c, r66c, r67c]) (N := [(22, [(0, aR [314]), (1, aR [326]), (2, aI 0 0), (3, aI 0 0)], [(314, 39, 0, 0), (314, 40, 0, 0)], 186, []),
  (166, [(0, aR [314]), (1, aR [326]), (2, aI 0 4), (3, aI 1 178)], [(314, 39, 0, 15), (314, 40, 0, 255), (326, 27, 60, 60)], 0, [(3, 1, 178, true)]),
  (38, [(0, aR [314]), (1, aR [326]), (2, aI 0 0), (3, aI 0 0), (4, aI (-1) (-1))], [(314, 39, 0, 0), (314, 40, 0, 0), (314, 27, 1, 4)], 185, []),
  (38, [(0, aR [314]), (1, aR [326]), (2, aI 0 0), (3, aI 0 0), (4, aI 0 0)], [(314, 39, 0, 0), (314, 40, 0, 0), (314, 27, 1, 4)], 185, []),
  (38, [(0, aR [314]), (1, aR [326]), (2, aI 0 0), (3, aI 0 0), (4, aI 1 1)], [(314, 39, 0, 0), (314, 40, 0, 0), (314, 27, 1, 4)], 185, []),
  (38, [(0, aR [314]), (1, aR [326]), (2, aI 0 0), (3, aI 0 0), (4, aI 2 2)], [(314, 39, 0, 0), (314, 40, 0, 0), (314, 27, 1, 4)], 185, []),
  (38, [(0, aR [314]), (1, aR [326]), (2, aI 0 0), (3, aI 0 0), (4, aI 3 3)], [(314, 39, 0, 0), (314, 40, 0, 0), (314, 27, 1, 4)], 185, []),
  (38, [(0, aR [314]), (1, aR [326]), (2, aI 0 0), (3, aI 0 0), (4, aI 4 4)], [(314, 39, 0, 0), (314, 40, 0, 0), (314, 27, 1, 4)], 185, []),
  (38, [(0, aR [314]), (1, aR [326]), (2, aI 0 0), (3, aI 0 0), (4, aI 5 5)], [(314, 39, 0, 0), (314, 40, 0, 0), (314, 27, 1, 4)], 185, []),
  (38, [(0, aR [314]), (1, aR [326]), (2, aI 0 0), (3, aI 0 0), (4, aI 6 6)], [(314, 39, 0, 0), (314, 40, 0, 0), (314, 27, 1, 4)], 185, []),
  (38, [(0, aR [314]), (1, aR [326]), (2, aI 0 0), (3, aI 0 0), (4, aI 7 7)], [(314, 39, 0, 0), (314, 40, 0, 0), (314, 27, 1, 4)], 185, []),
  (22, [(0, aR [314]), (1, aR [326]), (2, aI 0 1), (3, aI 1 1), (4, aI (-1) 7)], [(314, 40, 0, 128), (314, 27, 1, 4), (314, 39, 0, 1)], 184, []),
  (38, [(0, aR [314]), (1, aR [326]), (2, aI 0 1), (3, aI 1 1), (4, aI (-1) (-1))], [(314, 40, 0, 128), (314, 27, 2, 4), (314, 39, 0, 1)], 183, []),
  (38, [(0, aR [314]), (1, aR [326]), (2, aI 0 1), (3, aI 1 1), (4, aI 0 0)], [(314, 40, 0, 128), (314, 27, 2, 4), (314, 39, 0, 1)], 183, []),
  (38, [(0, aR [314]), (1, aR [326]), (2, aI 0 1), (3, aI 1 1), (4, aI 1 1)], [(314, 40, 0, 128), (314, 27, 2, 4), (314, 39, 0, 1)], 183, []),
  (38, [(0, aR [314]), (1, aR [326]), (2, aI 0 1), (3, aI 1 1), (4, aI 2 2)], [(314, 40, 0, 128), (314, 27, 2, 4), (314, 39, 0, 1)], 183, []),
  (38, [(0, aR [314]), (1, aR [326]), (2, aI 0 1), (3, aI 1 1), (4, aI 3 3)], [(314, 40, 0, 128), (314, 27, 2, 4), (314, 39, 0, 1)], 183, []),
  (38, [(0, aR [314]), (1, aR [326]), (2, aI 0 1), (3, aI 1 1), (4, aI 4 4)], [(314, 40, 0, 128), (314, 27, 2, 4), (314, 39, 0, 1)], 183, []),
  (38, [(0, aR [314]), (1, aR [326]), (2, aI 0 1), (3, aI 1 1), (4, aI 5 5)], [(314, 40, 0, 128), (314, 27, 2, 4), (314, 39, 0, 1)], 183, []),
  (38, [(0, aR [314]), (1, aR [326]), (2, aI 0 1), (3, aI 1 1), (4, aI 6 6)], [(314, 40, 0, 128), (314, 27, 2, 4), (314, 39, 0, 1)], 183, []),
  (38, [(0, aR [314]), (1, aR [326]), (2, aI 0 1), (3, aI 1 1), (4, aI 7 7)], [(314, 40, 0, 128), (314, 27, 2, 4), (314, 39, 0, 1)], 183, []),
  (22, [(0, aR [314]), (1, aR [326]), (2, aI 0 2), (3, aI 2 2), (4, aI (-1) 7)], [(314, 40, 0, 255), (314, 27, 2, 4), (314, 39, 0, 3)], 182, []),
  (38, [(0, aR [314]), (1, aR [326]), (2, aI 0 2), (3, aI 2 2), (4, aI (-1) (-1))], [(314, 40, 0, 255), (314, 27, 3, 4), (314, 39, 0, 3)], 181, []),
  (38, [(0, aR [314]), (1, aR [326]), (2, aI 0 2), (3, aI 2 2), (4, aI 0 0)], [(314, 40, 0, 255), (314, 27, 3, 4), (314, 39, 0, 3)], 181, []),
  (38, [(0, aR [314]), (1, aR [326]), (2, aI 0 2), (3, aI 2 2), (4, aI 1 1)], [(314, 40, 0, 255), (314, 27, 3, 4), (314, 39, 0, 3)], 181, []),
  (38, [(0, aR [314]), (1, aR [326]), (2, aI 0 2), (3, aI 2 2), (4, aI 2 2)], [(314, 40, 0, 255), (314, 27, 3, 4), (314, 39, 0, 3)], 181, []),
  (38, [(0, aR [314]), (1, aR [326]), (2, aI 0 2), (3, aI 2 2), (4, aI 3 3)], [(314, 40, 0, 255), (314, 27, 3, 4), (314, 39, 0, 3)], 181, []),
  (38, [(0, aR [314]), (1, aR [326]), (2, aI 0 2), (3, aI 2 2), (4, aI 4 4)], [(314, 40, 0, 255), (314, 27, 3, 4), (314, 39, 0, 3)], 181, []),
  (38, [(0, aR [314]), (1, aR [326]), (2, aI 0 2), (3, aI 2 2), (4, aI 5 5)], [(314, 40, 0, 255), (314, 27, 3, 4), (314, 39, 0, 3)], 181, []),
  (38, [(0, aR [314]), (1, aR [326]), (2, aI 0 2), (3, aI 2 2), (4, aI 6 6)], [(314, 40, 0, 255), (314, 27, 3, 4), (314, 39, 0, 3)], 181, []),
  (38, [(0, aR [314]), (1, aR [326]), (2, aI 0 2), (3, aI 2 2), (4, aI 7 7)], [(314, 40, 0, 255), (314, 27, 3, 4), (314, 39, 0, 3)], 181, []),
  (22, [(0, aR [314]), (1, aR [326]), (2, aI 0 3), (3, aI 3 3), (4, aI (-1) 7)], [(314, 40, 0, 255), (314, 27, 3, 4), (314, 39, 0, 7)], 180, []),
  (38, [(0, aR [314]), (1, aR [326]), (2, aI 0 3), (3, aI 3 3), (4, aI (-1) (-1))], [(314, 40, 0, 255), (314, 27, 4, 4), (314, 39, 0, 7)], 179, []),
  (38, [(0, aR [314]), (1, aR [326]), (2, aI 0 3), (3, aI 3 3), (4, aI 0 0)], [(314, 40, 0, 255), (314, 27, 4, 4), (314, 39, 0, 7)], 179, []),
  (38, [(0, aR [314]), (1, aR [326]), (2, aI 0 3), (3, aI 3 3), (4, aI 1 1)], [(314, 40, 0, 255), (314, 27, 4, 4), (314, 39, 0, 7)], 179, []),
  (38, [(0, aR [314]), (1, aR [326]), (2, aI 0 3), (3, aI 3 3), (4, aI 2 2)], [(314, 40, 0, 255), (314, 27, 4, 4), (314, 39, 0, 7)], 179, []),
  (38, [(0, aR [314]), (1, aR [326]), (2, aI 0 3), (3, aI 3 3), (4, aI 3 3)], [(314, 40, 0, 255), (314, 27, 4, 4), (314, 39, 0, 7)], 179, []),
  (38, [(0, aR [314]), (1, aR [326]), (2, aI 0 3), (3, aI 3 3), (4, aI 4 4)], [(314, 40, 0, 255), (314, 27, 4, 4), (314, 39, 0, 7)], 179, []),
  (38, [(0, aR [314]), (1, aR [326]), (2, aI 0 3), (3, aI 3 3), (4, aI 5 5)], [(314, 40, 0, 255), (314, 27, 4, 4), (314, 39, 0, 7)], 179, []),
  (38, [(0, aR [314]), (1, aR [326]), (2, aI 0 3), (3, aI 3 3), (4, aI 6 6)], [(314, 40, 0, 255), (314, 27, 4, 4), (314, 39, 0, 7)], 179, []),
  (38, [(0, aR [314]), (1, aR [326]), (2, aI 0 3), (3, aI 3 3), (4, aI 7 7)], [(314, 40, 0, 255), (314, 27, 4, 4), (314, 39, 0, 7)], 179, []),
  (22, [(0, aR [314]), (1, aR [326]), (2, aI 0 4), (3, aI 4 4), (4, aI (-1) 7)], [(314, 40, 0, 255), (314, 27, 4, 4), (314, 39, 0, 15)], 178, [])]) (sp := [(22, 3), (38, 4)]) (fu := 60) (fa_cons (vUq r52 (by decide)) (fa_cons (vUq r64 (by decide)) (fa_cons (vUq r65 (by decide)) (fa_cons (vUq r66 (by decide)) (fa_cons (vUq r67 (by decide)) (fa_nil)))))) (by decide +kernel)
/-- X12_day -/
def r69c : aCt := (212, [aR [314]], [], [(some (aI 0 4), [(lLo, lHi)], []), (some (aI 0 0), [(lLo, lHi)], []), (some (aI (-1) (-1)), [(lLo, lHi)], [])], [(314, 0, 1), (314, 8, 15), (314, 17, 18), (314, 39, 41), (314, 42, 43), (318, 99, 101), (318, 102, 103), (318, 108, 109), (318, 119, 120), (318, 121, 122), (326, 0, 1), (326, 2, 3), (326, 4, 5), (326, 6, 7), (326, 8, 9), (326, 10, 11), (326, 12, 13), (326, 14, 15), (326, 17, 18), (326, 19, 20), (326, 21, 22), (326, 23, 24), (326, 25, 208), (328, 0, 64), (330, 0, 8191), (331, 0, 8320)])
set_option maxRecDepth 100000 in
theorem r69 : vC tS tR jM 809 r69c := chkF_ok (D := 808) (hst := jM_st (by decide +kernel)) (T := [remc, r68c]) (N := []) (sp := []) (fu := 26) (fa_cons (vUq rem_ok (by decide)) (fa_cons (vUq r68 (by decide)) (fa_nil))) (by decide +kernel)
/-- X12_pays -/
def r70c : aCt := (211, [aR [314], aIt], [], [(some (aI 1 1), [(lLo, lHi), (iLo, iHi)], []), (some (aI 0 0), [(lLo, lHi), ((-2147483647), iHi)], [])], [(314, 42, 43), (326, 25, 26), (331, 0, 8320)])
set_option maxRecDepth 100000 in
theorem r70 : vC tS tR jM 2 r70c := chkF_ok (D := 1) (hst := jM_st (by decide +kernel)) (T := [remc]) (N := []) (sp := []) (fu := 25) (fa_cons (vUq rem_ok (by decide)) (fa_nil)) (by decide +kernel)
/-- X12_wall -/
def r71c : aCt := (213, [aR [314], aIt], [], [(some (aI (-1) (-1)), [(lLo, lHi), (iLo, iHi)], []), (some (aI 0 1), [(lLo, lHi), (0, 11)], [])], [(314, 0, 1), (314, 42, 43), (326, 24, 26), (331, 0, 8320)])
set_option maxRecDepth 100000 in
theorem r71 : vC tS tR jM 3 r71c := chkF_ok (D := 2) (hst := jM_st (by decide +kernel)) (T := [r16c, r70c]) (N := []) (sp := []) (fu := 37) (fa_cons (vUq r16 (by decide)) (fa_cons (vUq r70 (by decide)) (fa_nil))) (by decide +kernel)
/-- X12_lamp -/
def r72c : aCt := (214, [aR [314], aIt], [], [(some (aI (-1) (-1)), [(lLo, lHi), (lLo, lHi)], []), (some (aI 1 3), [(lLo, lHi), (lLo, lHi)], [])], [(314, 0, 1), (314, 42, 43), (326, 1, 2), (326, 3, 4), (326, 5, 6), (326, 7, 8), (326, 9, 10), (326, 11, 12), (326, 13, 14), (326, 15, 16), (326, 25, 26), (331, 0, 8320)])
set_option maxRecDepth 100000 in
theorem r72 : vC tS tR jM 3 r72c := chkF_ok (D := 2) (hst := jM_st (by decide +kernel)) (T := [r1c, r70c]) (N := [(13, [(0, aR [314]), (1, aI 0 0)], [(314, 0, 0, 0)], 0, []),
  (13, [(0, aR [314]), (1, aI 1 1)], [(314, 0, 0, 0)], 0, []),
  (13, [(0, aR [314]), (1, aI 2 2)], [(314, 0, 0, 0)], 0, []),
  (13, [(0, aR [314]), (1, aI 3 3)], [(314, 0, 0, 0)], 0, []),
  (13, [(0, aR [314]), (1, aI 4 4)], [(314, 0, 0, 0)], 0, []),
  (13, [(0, aR [314]), (1, aI 5 5)], [(314, 0, 0, 0)], 0, []),
  (13, [(0, aR [314]), (1, aI 6 6)], [(314, 0, 0, 0)], 0, []),
  (13, [(0, aR [314]), (1, aI 7 7)], [(314, 0, 0, 0)], 0, [])]) (sp := [(13, 1)]) (fu := 42) (fa_cons (vUq r1 (by decide)) (fa_cons (vUq r70 (by decide)) (fa_nil))) (by decide +kernel)
/-- X12_moves -/
def r73c : aCt := (215, [aR [314], aIt, aIt], [], [(some (aI (-1) (-1)), [(lLo, lHi), (iLo, iHi), (iLo, iHi)], []), (some (aI 0 9), [(lLo, lHi), (0, 3), (0, 7)], [])], [(314, 0, 1), (314, 42, 43), (326, 16, 23), (326, 25, 26), (331, 0, 8320)])
set_option maxRecDepth 100000 in
theorem r73 : vC tS tR jM 3 r73c := chkF_ok (D := 2) (hst := jM_st (by decide +kernel)) (T := [r19c, r1c, r70c]) (N := []) (sp := []) (fu := 58) (fa_cons (vUq r19 (by decide)) (fa_cons (vUq r1 (by decide)) (fa_cons (vUq r70 (by decide)) (fa_nil)))) (by decide +kernel)
/-- X12_preach -/
def r74c : aCt := (216, [aR [314], aIt], [], [(some (aI (-1) (-1)), [(lLo, lHi), (lLo, lHi)], []), (some (aI 1 9), [(lLo, lHi), (lLo, lHi)], [])], [(314, 0, 1), (314, 42, 43), (326, 17, 18), (326, 19, 20), (326, 21, 22), (326, 23, 24), (326, 25, 26), (331, 0, 8320)])
set_option maxRecDepth 100000 in
theorem r74 : vC tS tR jM 3 r74c := chkF_ok (D := 2) (hst := jM_st (by decide +kernel)) (T := [r19c, r70c]) (N := [(13, [(0, aR [314]), (1, aI 0 0)], [(314, 0, 0, 0)], 0, []),
  (13, [(0, aR [314]), (1, aI 1 1)], [(314, 0, 0, 0)], 0, []),
  (13, [(0, aR [314]), (1, aI 2 2)], [(314, 0, 0, 0)], 0, []),
  (13, [(0, aR [314]), (1, aI 3 3)], [(314, 0, 0, 0)], 0, [])]) (sp := [(13, 1)]) (fu := 48) (fa_cons (vUq r19 (by decide)) (fa_cons (vUq r70 (by decide)) (fa_nil))) (by decide +kernel)
/-- X12_isIn -/
def r75c : aCt := (155, [aLt, aL 1 1, aL 50 50], [], [(some (aI 1 1), [(1, 50), (lLo, lHi), (lLo, lHi)], []), (some (aI 0 0), [(lLo, lHi), (lLo, lHi), (lLo, lHi)], [])], [])
theorem r75 : vC tS tR jM 1 r75c := isin_ok (1) (1) (50) (50)
/-- X12_give -/
def r76c : aCt := (217, [aR [314], aIt], [], [(some (aI (-1) (-1)), [(lLo, lHi), (iLo, iHi)], []), (some (aIt), [(lLo, lHi), (1, 50)], [])], [(314, 0, 1), (314, 42, 43), (326, 25, 26), (331, 0, 8320)])
set_option maxRecDepth 100000 in
theorem r76 : vC tS tR jM 2 r76c := chkF_ok (D := 1) (hst := jM_st (by decide +kernel)) (T := [r75c, remc]) (N := []) (sp := []) (fu := 42) (fa_cons (vUq r75 (by decide)) (fa_cons (vUq rem_ok (by decide)) (fa_nil))) (by decide +kernel)
/-- X12_isIn -/
def r77c : aCt := (155, [aLt, aL 1 1, aL 30 30], [], [(some (aI 1 1), [(1, 30), (lLo, lHi), (lLo, lHi)], []), (some (aI 0 0), [(lLo, lHi), (lLo, lHi), (lLo, lHi)], [])], [])
theorem r77 : vC tS tR jM 1 r77c := isin_ok (1) (1) (30) (30)
/-- X12_draw -/
def r78c : aCt := (218, [aR [314], aI 10 10], [], [(some (aI 0 9), [(lLo, lHi), (10, 10)], [])], [])
set_option maxRecDepth 100000 in
theorem r78 : vC tS tR jM 1 r78c := chkF_ok (D := 0) (hst := jM_st (by decide +kernel)) (T := []) (N := []) (sp := []) (fu := 24) (fa_nil) (by decide +kernel)
/-- X12_draw -/
def r79c : aCt := (218, [aR [314], aI 1 4], [], [(some (aI 0 3), [(lLo, lHi), (1, 4)], [])], [])
set_option maxRecDepth 100000 in
theorem r79 : vC tS tR jM 1 r79c := chkF_ok (D := 0) (hst := jM_st (by decide +kernel)) (T := []) (N := []) (sp := []) (fu := 24) (fa_nil) (by decide +kernel)
/-- X12_draw -/
def r80c : aCt := (218, [aR [314], aI 2 8], [], [(some (aI 0 7), [(lLo, lHi), (2, 8)], [])], [])
set_option maxRecDepth 100000 in
theorem r80 : vC tS tR jM 1 r80c := chkF_ok (D := 0) (hst := jM_st (by decide +kernel)) (T := []) (N := []) (sp := []) (fu := 24) (fa_nil) (by decide +kernel)
