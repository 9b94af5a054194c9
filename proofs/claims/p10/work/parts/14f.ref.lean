/-! L2: contracts of the reference -/
/-- X12_check -/
def r135c : aCt := (225, [aR [314], aIt, aIt], [], [(some (aI (-1000000) (-1000000)), [(lLo, lHi), (iLo, iHi), (iLo, iHi)], []), (some (aI 0 0), [(lLo, lHi), (0, 3), (0, 2)], []), (some (aIt), [(lLo, lHi), (lLo, lHi), (lLo, lHi)], []), (some (aI (-1) (-1)), [(lLo, lHi), (lLo, lHi), (lLo, lHi)], [])], [(314, 0, 1)])
set_option maxRecDepth 100000 in
theorem r135 : vC tS tR jM 4 r135c := chk_ok (D := 3) (hst := jM_st (by decide +kernel)) (T := [r131c, r2c, r1c, r54c, r134c]) (N := [(75, [(0, aR [314]), (1, aI 0 3), (2, aI 0 2), (3, aI 0 48), (4, aI 1 16), (5, aIt), (6, aIt), (7, aI 1 1)], [(314, 0, 0, 0), (314, 26, 1, 12)], 1, [(4, 1, 16, true)]),
  (75, [(0, aR [314]), (1, aI 0 3), (2, aI 0 2), (3, aI 0 48), (4, aI 1 15), (5, aIt), (6, aIt), (7, aI 0 0), (8, aIt), (9, aI (-1) (-1))], [(314, 0, 0, 0), (314, 26, 1, 12)], 0, [])]) (sp := [(75, 7)]) (fu := 60) (fa_cons (vUp r131 (by decide)) (fa_cons (vUp r2 (by decide)) (fa_cons (vUp r1 (by decide)) (fa_cons (vUp r54 (by decide)) (fa_cons (vUp r134 (by decide)) (fa_nil)))))) (by decide +kernel)
/-- X12_far -/
def r136c : aCt := (226, [aR [314], aIt, aIt], [], [(some (aI 0 100000), [(lLo, lHi), (0, 7), (0, 7)], []), (some (aI (-1) (-1)), [(lLo, lHi), (iLo, iHi), (iLo, iHi)], [])], [(314, 0, 1), (328, 0, 64)])
set_option maxRecDepth 100000 in
theorem r136 : vC tS tR jM 3 r136c := chk_ok (D := 2) (hst := jM_st (by decide +kernel)) (T := [r1c, r53c, r57c, r56c]) (N := []) (sp := []) (fu := 35) (fa_cons (vUp r1 (by decide)) (fa_cons (vUp r53 (by decide)) (fa_cons (vUp r57 (by decide)) (fa_cons (vUp r56 (by decide)) (fa_nil))))) (by decide +kernel)
/-- X12_copy -/
def r137c : aCt := (192, [aR [326], aR [327]], [], [(none, [(lLo, lHi), (lLo, lHi)], [])], [(327, 0, 28)])
set_option maxRecDepth 100000 in
theorem r137 : vC tS tR jM 1 r137c := chk_ok (D := 0) (hst := jM_st (by decide +kernel)) (T := []) (N := [(2, [(0, aR [326]), (1, aR [327]), (2, aI 0 0)], [], 27, []),
  (2, [(0, aR [326]), (1, aR [327]), (2, aI 1 1)], [], 26, []),
  (2, [(0, aR [326]), (1, aR [327]), (2, aI 2 2)], [], 25, []),
  (2, [(0, aR [326]), (1, aR [327]), (2, aI 3 3)], [], 24, []),
  (2, [(0, aR [326]), (1, aR [327]), (2, aI 4 4)], [], 23, []),
  (2, [(0, aR [326]), (1, aR [327]), (2, aI 5 5)], [], 22, []),
  (2, [(0, aR [326]), (1, aR [327]), (2, aI 6 6)], [], 21, []),
  (2, [(0, aR [326]), (1, aR [327]), (2, aI 7 7)], [], 20, []),
  (2, [(0, aR [326]), (1, aR [327]), (2, aI 8 8)], [], 19, []),
  (2, [(0, aR [326]), (1, aR [327]), (2, aI 9 9)], [], 18, []),
  (2, [(0, aR [326]), (1, aR [327]), (2, aI 10 10)], [], 17, []),
  (2, [(0, aR [326]), (1, aR [327]), (2, aI 11 11)], [], 16, []),
  (2, [(0, aR [326]), (1, aR [327]), (2, aI 12 12)], [], 15, []),
  (2, [(0, aR [326]), (1, aR [327]), (2, aI 13 13)], [], 14, []),
  (2, [(0, aR [326]), (1, aR [327]), (2, aI 14 14)], [], 13, []),
  (2, [(0, aR [326]), (1, aR [327]), (2, aI 15 15)], [], 12, []),
  (2, [(0, aR [326]), (1, aR [327]), (2, aI 16 16)], [], 11, []),
  (2, [(0, aR [326]), (1, aR [327]), (2, aI 17 17)], [], 10, []),
  (2, [(0, aR [326]), (1, aR [327]), (2, aI 18 18)], [], 9, []),
  (2, [(0, aR [326]), (1, aR [327]), (2, aI 19 19)], [], 8, []),
  (2, [(0, aR [326]), (1, aR [327]), (2, aI 20 20)], [], 7, []),
  (2, [(0, aR [326]), (1, aR [327]), (2, aI 21 21)], [], 6, []),
  (2, [(0, aR [326]), (1, aR [327]), (2, aI 22 22)], [], 5, []),
  (2, [(0, aR [326]), (1, aR [327]), (2, aI 23 23)], [], 4, []),
  (2, [(0, aR [326]), (1, aR [327]), (2, aI 24 24)], [], 3, []),
  (2, [(0, aR [326]), (1, aR [327]), (2, aI 25 25)], [], 2, []),
  (2, [(0, aR [326]), (1, aR [327]), (2, aI 26 26)], [], 1, []),
  (2, [(0, aR [326]), (1, aR [327]), (2, aI 27 27)], [], 0, [])]) (sp := [(2, 2)]) (fu := 19) (fa_nil) (by decide +kernel)
/-- X12_isIn -/
def r138c : aCt := (155, [aLt, aL 1 1, aL 999 999], [], [(some (aI 1 1), [(1, 999), (lLo, lHi), (lLo, lHi)], []), (some (aI 0 0), [(lLo, lHi), (lLo, lHi), (lLo, lHi)], [])], [])
theorem r138 : vC tS tR jM 1 r138c := isin_ok (1) (1) (999) (999)
/-- X12_seen -/
def r139c : aCt := (233, [aR [314], aIt, aIt], [], [(some (aI 1 10), [(lLo, lHi), (0, 7), (iLo, iHi)], []), (some (aI (-1) (-1)), [(lLo, lHi), (iLo, iHi), (iLo, iHi)], [])], [(314, 0, 1), (314, 51, 52), (332, 0, 20)])
set_option maxRecDepth 100000 in
theorem r139 : vC tS tR jM 2 r139c := chk_ok (D := 1) (hst := jM_st (by decide +kernel)) (T := [r1c]) (N := []) (sp := []) (fu := 48) (fa_cons (vUp r1 (by decide)) (fa_nil)) (by decide +kernel)
/-- X12_has -/
def r140c : aCt := (156, [aIt, aI iLo 11], [], [(some (aI 0 0), [(iLo, iHi), (iLo, 11)], []), (some (aI 1 1), [(iLo, iHi), (iLo, 11)], [])], [])
set_option maxRecDepth 100000 in
theorem r140 : vC tS tR jM 1 r140c := chk_ok (D := 0) (hst := jM_st (by decide +kernel)) (T := []) (N := []) (sp := []) (fu := 17) (fa_nil) (by decide +kernel)
/-- X12_wallsBy -/
def r141c : aCt := (235, [aR [314], aIt], [], [(some (aIt), [(lLo, lHi), (iLo, iHi)], [])], [])
set_option maxRecDepth 100000 in
theorem r141 : vC tS tR jM 1 r141c := chk_ok (D := 0) (hst := jM_st (by decide +kernel)) (T := []) (N := []) (sp := []) (fu := 21) (fa_nil) (by decide +kernel)
/-- X12_isSo -/
def r142c : aCt := (234, [aR [314], aIt], [], [(some (aI 1 1), [(lLo, lHi), (lLo, lHi)], []), (some (aI 0 0), [(lLo, lHi), (lLo, lHi)], [])], [])
set_option maxRecDepth 100000 in
theorem r142 : vC tS tR jM 4 r142c := chk_ok (D := 3) (hst := jM_st (by decide +kernel)) (T := [r54c]) (N := [(8, [(0, aR [314]), (1, aIt), (2, aI 0 255), (3, aI 0 10)], [], 0, [(3, 1, 10, true)])]) (sp := []) (fu := 33) (fa_cons (vUp r54 (by decide)) (fa_nil)) (by decide +kernel)
/-- X12_couldBe -/
def r143c : aCt := (236, [aR [314], aIt], [], [(some (aI 0 0), [(lLo, lHi), (iLo, iHi)], []), (some (aI 1 1), [(lLo, lHi), (iLo, 99)], [])], [])
set_option maxRecDepth 100000 in
theorem r143 : vC tS tR jM 5 r143c := chk_ok (D := 4) (hst := jM_st (by decide +kernel)) (T := [r140c, r141c, r142c]) (N := []) (sp := []) (fu := 30) (fa_cons (vUp r140 (by decide)) (fa_cons (vUp r141 (by decide)) (fa_cons (vUp r142 (by decide)) (fa_nil)))) (by decide +kernel)
/-- X12_knocked -/
def r144c : aCt := (237, [aR [314], aIt], [], [(some (aI (-1) (-1)), [(lLo, lHi), (lLo, lHi)], []), (some (aIt), [(lLo, lHi), (lLo, lHi)], [])], [(314, 0, 1)])
set_option maxRecDepth 100000 in
theorem r144 : vC tS tR jM 6 r144c := chk_ok (D := 5) (hst := jM_st (by decide +kernel)) (T := [r143c]) (N := [(23, [(0, aR [314]), (1, aI (-1) iHi), (2, aIt), (3, aI 0 100)], [(314, 0, 0, 0), (314, 26, 1, 12)], 0, [(3, 1, 100, true)])]) (sp := []) (fu := 21) (fa_cons (vUp r143 (by decide)) (fa_nil)) (by decide +kernel)
/-- X12_has -/
def r145c : aCt := (156, [aI 0 255, aI 0 0], [], [(some (aI 0 0), [(0, 255), (0, 0)], []), (some (aI 1 1), [(0, 255), (0, 0)], [])], [])
set_option maxRecDepth 100000 in
theorem r145 : vC tS tR jM 1 r145c := chk_ok (D := 0) (hst := jM_st (by decide +kernel)) (T := []) (N := []) (sp := []) (fu := 17) (fa_nil) (by decide +kernel)
/-- J9_abs_0f7a4 -/
def r146c : aCt := (266, [aIt], [], [(some (aIt), [(iLo, iHi)], [])], [])
set_option maxRecDepth 100000 in
theorem r146 : vC tS tR jM 1 r146c := chk_ok (D := 0) (hst := jM_st (by decide +kernel)) (T := []) (N := []) (sp := []) (fu := 13) (fa_nil) (by decide +kernel)
/-- X12_has -/
def r147c : aCt := (156, [aI 0 255, aI 0 1], [], [(some (aI 0 0), [(0, 255), (0, 1)], []), (some (aI 1 1), [(0, 255), (0, 1)], [])], [])
set_option maxRecDepth 100000 in
theorem r147 : vC tS tR jM 1 r147c := chk_ok (D := 0) (hst := jM_st (by decide +kernel)) (T := []) (N := []) (sp := []) (fu := 17) (fa_nil) (by decide +kernel)
/-- X12_has -/
def r148c : aCt := (156, [aI 0 255, aI 0 2], [], [(some (aI 0 0), [(0, 255), (0, 2)], []), (some (aI 1 1), [(0, 255), (0, 2)], [])], [])
set_option maxRecDepth 100000 in
theorem r148 : vC tS tR jM 1 r148c := chk_ok (D := 0) (hst := jM_st (by decide +kernel)) (T := []) (N := []) (sp := []) (fu := 17) (fa_nil) (by decide +kernel)
/-- X12_has -/
def r149c : aCt := (156, [aI 0 255, aI 0 3], [], [(some (aI 0 0), [(0, 255), (0, 3)], []), (some (aI 1 1), [(0, 255), (0, 3)], [])], [])
set_option maxRecDepth 100000 in
theorem r149 : vC tS tR jM 1 r149c := chk_ok (D := 0) (hst := jM_st (by decide +kernel)) (T := []) (N := []) (sp := []) (fu := 17) (fa_nil) (by decide +kernel)
/-- X12_has -/
def r150c : aCt := (156, [aI 0 255, aI 0 4], [], [(some (aI 0 0), [(0, 255), (0, 4)], []), (some (aI 1 1), [(0, 255), (0, 4)], [])], [])
set_option maxRecDepth 100000 in
theorem r150 : vC tS tR jM 1 r150c := chk_ok (D := 0) (hst := jM_st (by decide +kernel)) (T := []) (N := []) (sp := []) (fu := 17) (fa_nil) (by decide +kernel)
/-- X12_has -/
def r151c : aCt := (156, [aI 0 255, aI 0 5], [], [(some (aI 0 0), [(0, 255), (0, 5)], []), (some (aI 1 1), [(0, 255), (0, 5)], [])], [])
set_option maxRecDepth 100000 in
theorem r151 : vC tS tR jM 1 r151c := chk_ok (D := 0) (hst := jM_st (by decide +kernel)) (T := []) (N := []) (sp := []) (fu := 17) (fa_nil) (by decide +kernel)
/-- X12_has -/
def r152c : aCt := (156, [aI 0 255, aI 0 6], [], [(some (aI 0 0), [(0, 255), (0, 6)], []), (some (aI 1 1), [(0, 255), (0, 6)], [])], [])
set_option maxRecDepth 100000 in
theorem r152 : vC tS tR jM 1 r152c := chk_ok (D := 0) (hst := jM_st (by decide +kernel)) (T := []) (N := []) (sp := []) (fu := 17) (fa_nil) (by decide +kernel)
/-- X12_ask -/
def r153c : aCt := (238, [aR [314]], [], [(some (aI (-1) (-1)), [(lLo, lHi)], []), (some (aI (-1) 7), [(lLo, lHi)], [])], [(314, 0, 1)])
set_option maxRecDepth 100000 in
theorem r153 : vC tS tR jM 6 r153c := chk_ok (D := 5) (hst := jM_st (by decide +kernel)) (T := [r143c, r141c, r54c, r55c, r146c]) (N := [(20, [(0, aR [314]), (1, aI (-1) 7), (2, aIt), (3, aI 0 8)], [(314, 0, 0, 0), (314, 26, 1, 12)], 101, [(3, 102, 8, true)]),
  (37, [(0, aR [314]), (1, aI (-1) 7), (2, aIt), (3, aI 0 7), (4, aIt), (5, aI 0 1), (6, aI 0 100)], [(314, 0, 0, 0), (314, 26, 1, 12), (314, 25, 1, 8)], 0, [(3, 102, 8, true), (6, 1, 100, true)])]) (sp := []) (fu := 32) (fa_cons (vUp r143 (by decide)) (fa_cons (vUp r141 (by decide)) (fa_cons (vUp r54 (by decide)) (fa_cons (vUp r55 (by decide)) (fa_cons (vUp r146 (by decide)) (fa_nil)))))) (by decide +kernel)
/-- X12_isIn -/
def r154c : aCt := (155, [aLt, aL 1 1, aL 0 255], [], [(some (aI 1 1), [(1, 255), (lLo, lHi), (lLo, lHi)], []), (some (aI 0 0), [(lLo, lHi), (lLo, lHi), (lLo, lHi)], [])], [])
theorem r154 : vC tS tR jM 1 r154c := isin_ok (1) (1) (0) (255)
/-- X12_walls -/
def r155c : aCt := (239, [aR [314], aIt], [], [(some (aI (-1) (-1)), [(lLo, lHi), (iLo, iHi)], []), (some (aI (-1) 4095), [(lLo, lHi), (lLo, lHi)], [])], [(314, 0, 1)])
set_option maxRecDepth 100000 in
theorem r155 : vC tS tR jM 4 r155c := chk_ok (D := 3) (hst := jM_st (by decide +kernel)) (T := [r154c, r58c, r54c]) (N := [(36, [(0, aR [314]), (1, aI 1 255), (2, aI (-1) 4095), (3, aI 0 4096)], [(314, 0, 0, 0), (314, 26, 1, 12)], 0, [(3, 1, 4096, true)])]) (sp := []) (fu := 46) (fa_cons (vUp r154 (by decide)) (fa_cons (vUp r58 (by decide)) (fa_cons (vUp r54 (by decide)) (fa_nil)))) (by decide +kernel)
/-- X12_isGame -/
def r156c : aCt := (245, [aR [314], aIt, aIt], [], [(some (aI 1 1), [(lLo, lHi), (0, 3), (0, 3)], []), (some (aI 0 0), [(lLo, lHi), (iLo, iHi), (iLo, iHi)], [])], [])
set_option maxRecDepth 100000 in
theorem r156 : vC tS tR jM 2 r156c := chk_ok (D := 1) (hst := jM_st (by decide +kernel)) (T := [r20c]) (N := []) (sp := []) (fu := 21) (fa_cons (vUp r20 (by decide)) (fa_nil)) (by decide +kernel)
/-- X12_isIn -/
def r157c : aCt := (155, [aLt, aL 0 0, aL 100 100], [], [(some (aI 1 1), [(0, 100), (lLo, lHi), (lLo, lHi)], []), (some (aI 0 0), [(lLo, lHi), (lLo, lHi), (lLo, lHi)], [])], [])
theorem r157 : vC tS tR jM 1 r157c := isin_ok (0) (0) (100) (100)
/-- X12_isIn -/
def r158c : aCt := (155, [aLt, aL 0 0, aL 999 999], [], [(some (aI 1 1), [(0, 999), (lLo, lHi), (lLo, lHi)], []), (some (aI 0 0), [(lLo, lHi), (lLo, lHi), (lLo, lHi)], [])], [])
theorem r158 : vC tS tR jM 1 r158c := isin_ok (0) (0) (999) (999)
/-- X12_shares -/
def r159c : aCt := (250, [aR [314], aIt, aIt], [], [(some (aI (-1) (-1)), [(lLo, lHi), (iLo, iHi), (iLo, iHi)], []), (some (aIt), [(lLo, lHi), (lLo, lHi), (lLo, lHi)], []), (some (aI 0 0), [(lLo, lHi), (lLo, lHi), (lLo, lHi)], [])], [(314, 0, 1)])
set_option maxRecDepth 100000 in
theorem r159 : vC tS tR jM 2 r159c := chk_ok (D := 1) (hst := jM_st (by decide +kernel)) (T := [r1c, r158c]) (N := [(32, [(0, aR [314]), (1, aI 0 7), (2, aI 0 999), (3, aIt), (4, aI 0 8)], [(314, 0, 0, 0)], 0, [(4, 1, 8, true)])]) (sp := []) (fu := 26) (fa_cons (vUp r1 (by decide)) (fa_cons (vUp r158 (by decide)) (fa_nil))) (by decide +kernel)
/-- X12_dark -/
def r160c : aCt := (258, [aR [314]], [], [(some (aI 0 255), [(lLo, lHi)], [])], [])
set_option maxRecDepth 100000 in
theorem r160 : vC tS tR jM 4 r160c := chk_ok (D := 3) (hst := jM_st (by decide +kernel)) (T := [r54c]) (N := [(14, [(0, aR [314]), (1, aI 0 255), (2, aI 0 8)], [], 0, [(2, 1, 8, true)])]) (sp := []) (fu := 31) (fa_cons (vUp r54 (by decide)) (fa_nil)) (by decide +kernel)
/-- X12_openYards -/
def r161c : aCt := (257, [aR [314]], [], [(some (aIt), [(lLo, lHi)], [])], [])
set_option maxRecDepth 100000 in
theorem r161 : vC tS tR jM 2 r161c := chk_ok (D := 1) (hst := jM_st (by decide +kernel)) (T := [r14c]) (N := [(4, [(0, aR [314]), (1, aIt), (2, aI 0 12)], [], 0, [(2, 1, 12, true)])]) (sp := []) (fu := 32) (fa_cons (vUp r14 (by decide)) (fa_nil)) (by decide +kernel)
