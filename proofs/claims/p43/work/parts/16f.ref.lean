/-! L2: contracts of the reference -/
/-- X12_isIn -/
def r135c : aCt := (155, [aLt, aL 0 0, aL 53 53], [], [(some (aI 1 1), [(0, 53), (lLo, lHi), (lLo, lHi)], []), (some (aI 0 0), [(lLo, lHi), (lLo, lHi), (lLo, lHi)], [])], [])
theorem r135 : vC tS tR jM 1 r135c := isin_ok (0) (0) (53) (53)
/-- X12_isIn -/
def r136c : aCt := (155, [aLt, aL 0 0, aL 54 54], [], [(some (aI 1 1), [(0, 54), (lLo, lHi), (lLo, lHi)], []), (some (aI 0 0), [(lLo, lHi), (lLo, lHi), (lLo, lHi)], [])], [])
theorem r136 : vC tS tR jM 1 r136c := isin_ok (0) (0) (54) (54)
/-- X12_isIn -/
def r137c : aCt := (155, [aLt, aL 0 0, aL 55 55], [], [(some (aI 1 1), [(0, 55), (lLo, lHi), (lLo, lHi)], []), (some (aI 0 0), [(lLo, lHi), (lLo, lHi), (lLo, lHi)], [])], [])
theorem r137 : vC tS tR jM 1 r137c := isin_ok (0) (0) (55) (55)
/-- X12_isIn -/
def r138c : aCt := (155, [aLt, aL 0 0, aL 56 56], [], [(some (aI 1 1), [(0, 56), (lLo, lHi), (lLo, lHi)], []), (some (aI 0 0), [(lLo, lHi), (lLo, lHi), (lLo, lHi)], [])], [])
theorem r138 : vC tS tR jM 1 r138c := isin_ok (0) (0) (56) (56)
/-- X12_isIn -/
def r139c : aCt := (155, [aLt, aL 0 0, aL 57 57], [], [(some (aI 1 1), [(0, 57), (lLo, lHi), (lLo, lHi)], []), (some (aI 0 0), [(lLo, lHi), (lLo, lHi), (lLo, lHi)], [])], [])
theorem r139 : vC tS tR jM 1 r139c := isin_ok (0) (0) (57) (57)
/-- X12_isIn -/
def r140c : aCt := (155, [aLt, aL 0 0, aL 58 58], [], [(some (aI 1 1), [(0, 58), (lLo, lHi), (lLo, lHi)], []), (some (aI 0 0), [(lLo, lHi), (lLo, lHi), (lLo, lHi)], [])], [])
theorem r140 : vC tS tR jM 1 r140c := isin_ok (0) (0) (58) (58)
/-- X12_isIn -/
def r141c : aCt := (155, [aLt, aL 0 0, aL 59 59], [], [(some (aI 1 1), [(0, 59), (lLo, lHi), (lLo, lHi)], []), (some (aI 0 0), [(lLo, lHi), (lLo, lHi), (lLo, lHi)], [])], [])
theorem r141 : vC tS tR jM 1 r141c := isin_ok (0) (0) (59) (59)
/-- X12_log -/
def r142c : aCt := (221, [aR [314], aIt, aIt], [], [(some (aI (-1) (-1)), [(lLo, lHi), (iLo, iHi), (iLo, iHi)], []), (some (aIt), [(lLo, lHi), (0, 59), (0, 2)], [])], [(314, 0, 1)])
set_option maxRecDepth 100000 in
theorem r142 : vC tS tR jM 2 r142c := chkV_ok (D := 1) (hst := jM_st (by decide +kernel)) (T := [r85c, r2c, r86c, r20c, r17c, r87c, r88c, r89c, r90c, r91c, r24c, r92c, r93c, r94c, r95c, r96c, r97c, r98c, r99c, r100c, r101c, r102c, r103c, r104c, r105c, r106c, r107c, r108c, r109c, r110c, r111c, r112c, r113c, r114c, r115c, r116c, r117c, r118c, r119c, r120c, r121c, r122c, r123c, r124c, r125c, r126c, r127c, r128c, r129c, r130c, r131c, r132c, r133c, r134c, r135c, r136c, r137c, r138c, r139c, r140c, r141c]) (N := []) (sp := []) (fu := 47) (a := 326) (i := 27) (lo := 0) (n := 61) (fa_cons (vUq r85 (by decide)) (fa_cons (vUq r2 (by decide)) (fa_cons (vUq r86 (by decide)) (fa_cons (vUq r20 (by decide)) (fa_cons (vUq r17 (by decide)) (fa_cons (vUq r87 (by decide)) (fa_cons (vUq r88 (by decide)) (fa_cons (vUq r89 (by decide)) (fa_cons (vUq r90 (by decide)) (fa_cons (vUq r91 (by decide)) (fa_cons (vUq r24 (by decide)) (fa_cons (vUq r92 (by decide)) (fa_cons (vUq r93 (by decide)) (fa_cons (vUq r94 (by decide)) (fa_cons (vUq r95 (by decide)) (fa_cons (vUq r96 (by decide)) (fa_cons (vUq r97 (by decide)) (fa_cons (vUq r98 (by decide)) (fa_cons (vUq r99 (by decide)) (fa_cons (vUq r100 (by decide)) (fa_cons (vUq r101 (by decide)) (fa_cons (vUq r102 (by decide)) (fa_cons (vUq r103 (by decide)) (fa_cons (vUq r104 (by decide)) (fa_cons (vUq r105 (by decide)) (fa_cons (vUq r106 (by decide)) (fa_cons (vUq r107 (by decide)) (fa_cons (vUq r108 (by decide)) (fa_cons (vUq r109 (by decide)) (fa_cons (vUq r110 (by decide)) (fa_cons (vUq r111 (by decide)) (fa_cons (vUq r112 (by decide)) (fa_cons (vUq r113 (by decide)) (fa_cons (vUq r114 (by decide)) (fa_cons (vUq r115 (by decide)) (fa_cons (vUq r116 (by decide)) (fa_cons (vUq r117 (by decide)) (fa_cons (vUq r118 (by decide)) (fa_cons (vUq r119 (by decide)) (fa_cons (vUq r120 (by decide)) (fa_cons (vUq r121 (by decide)) (fa_cons (vUq r122 (by decide)) (fa_cons (vUq r123 (by decide)) (fa_cons (vUq r124 (by decide)) (fa_cons (vUq r125 (by decide)) (fa_cons (vUq r126 (by decide)) (fa_cons (vUq r127 (by decide)) (fa_cons (vUq r128 (by decide)) (fa_cons (vUq r129 (by decide)) (fa_cons (vUq r130 (by decide)) (fa_cons (vUq r131 (by decide)) (fa_cons (vUq r132 (by decide)) (fa_cons (vUq r133 (by decide)) (fa_cons (vUq r134 (by decide)) (fa_cons (vUq r135 (by decide)) (fa_cons (vUq r136 (by decide)) (fa_cons (vUq r137 (by decide)) (fa_cons (vUq r138 (by decide)) (fa_cons (vUq r139 (by decide)) (fa_cons (vUq r140 (by decide)) (fa_cons (vUq r141 (by decide)) (fa_nil)))))))))))))))))))))))))))))))))))))))))))))))))))))))))))))) (by decide +kernel)
/-- X12_isWalk -/
def r143c : aCt := (222, [aR [314], aIt], [], [(some (aI 0 0), [(lLo, lHi), (iLo, iHi)], []), (some (aI 1 1), [(lLo, lHi), (0, 3)], [])], [])
set_option maxRecDepth 100000 in
theorem r143 : vC tS tR jM 1 r143c := chkF_ok (D := 0) (hst := jM_st (by decide +kernel)) (T := []) (N := []) (sp := []) (fu := 16) (fa_nil) (by decide +kernel)
/-- X12_isIn -/
def r144c : aCt := (155, [aLt, aL (-1) (-1), aL (-1) 15], [], [(some (aI 1 1), [((-1), 15), (lLo, lHi), (lLo, lHi)], []), (some (aI 0 0), [(lLo, lHi), (lLo, lHi), (lLo, lHi)], [])], [])
theorem r144 : vC tS tR jM 1 r144c := isin_ok (-1) (-1) (-1) (15)
/-- X12_walk -/
def r145c : aCt := (223, [aR [314], aIt, aIt], [], [(some (aI (-1) (-1)), [(lLo, lHi), (iLo, iHi), (iLo, iHi)], []), (some (aIt), [(lLo, lHi), (0, 3), ((-1), 15)], [])], [(314, 0, 1)])
set_option maxRecDepth 100000 in
theorem r145 : vC tS tR jM 2 r145c := chkF_ok (D := 1) (hst := jM_st (by decide +kernel)) (T := [r143c, r144c]) (N := []) (sp := []) (fu := 38) (fa_cons (vUq r143 (by decide)) (fa_cons (vUq r144 (by decide)) (fa_nil))) (by decide +kernel)
/-- X12_between -/
def r146c : aCt := (224, [aR [314], aIt, aIt], [], [(some (aIt), [(lLo, lHi), (lLo, lHi), (lLo, lHi)], [])], [])
set_option maxRecDepth 100000 in
theorem r146 : vC tS tR jM 2 r146c := chkF_ok (D := 1) (hst := jM_st (by decide +kernel)) (T := [r13c]) (N := [(5, [(0, aR [314]), (1, aIt), (2, aIt), (3, aIt), (4, aI 0 12)], [], 0, [(4, 1, 12, true)])]) (sp := []) (fu := 84) (fa_cons (vUq r13 (by decide)) (fa_nil)) (by decide +kernel)
/-- X12_check -/
def r147c : aCt := (225, [aR [314], aIt, aIt], [], [(some (aI (-1000000) (-1000000)), [(lLo, lHi), (iLo, iHi), (iLo, iHi)], []), (some (aI 0 0), [(lLo, lHi), (0, 3), (0, 2)], []), (some (aIt), [(lLo, lHi), (lLo, lHi), (lLo, lHi)], []), (some (aI (-1) (-1)), [(lLo, lHi), (lLo, lHi), (lLo, lHi)], [])], [(314, 0, 1)])
set_option maxRecDepth 100000 in
theorem r147 : vC tS tR jM 4 r147c := chkF_ok (D := 3) (hst := jM_st (by decide +kernel)) (T := [r143c, r2c, r1c, r53c, r146c]) (N := [(75, [(0, aR [314]), (1, aI 0 3), (2, aI 0 2), (3, aI 0 48), (4, aI 1 16), (5, aIt), (6, aIt), (7, aI 1 1)], [(314, 0, 0, 0), (314, 26, 1, 12)], 1, [(4, 1, 16, true)]),
  (75, [(0, aR [314]), (1, aI 0 3), (2, aI 0 2), (3, aI 0 48), (4, aI 1 15), (5, aIt), (6, aIt), (7, aI 0 0), (8, aIt), (9, aI (-1) (-1))], [(314, 0, 0, 0), (314, 26, 1, 12)], 0, [])]) (sp := [(75, 7)]) (fu := 60) (fa_cons (vUq r143 (by decide)) (fa_cons (vUq r2 (by decide)) (fa_cons (vUq r1 (by decide)) (fa_cons (vUq r53 (by decide)) (fa_cons (vUq r146 (by decide)) (fa_nil)))))) (by decide +kernel)
/-- X12_far -/
def r148c : aCt := (226, [aR [314], aIt, aIt], [], [(some (aI 0 100000), [(lLo, lHi), (0, 7), (0, 7)], []), (some (aI (-1) (-1)), [(lLo, lHi), (iLo, iHi), (iLo, iHi)], [])], [(314, 0, 1), (328, 0, 64)])
set_option maxRecDepth 100000 in
theorem r148 : vC tS tR jM 3 r148c := chkF_ok (D := 2) (hst := jM_st (by decide +kernel)) (T := [r1c, r52c, r56c, r55c]) (N := []) (sp := []) (fu := 35) (fa_cons (vUq r1 (by decide)) (fa_cons (vUq r52 (by decide)) (fa_cons (vUq r56 (by decide)) (fa_cons (vUq r55 (by decide)) (fa_nil))))) (by decide +kernel)
/-- X12_way -/
def r149c : aCt := (228, [aR [314], aIt, aIt], [], [(some (aIt), [(lLo, lHi), (0, 7), (0, 7)], []), (some (aI (-1) (-1)), [(lLo, lHi), (iLo, iHi), (iLo, iHi)], [])], [(314, 0, 1), (314, 44, 48), (328, 0, 64)])
set_option maxRecDepth 100000 in
theorem r149 : vC tS tR jM 260 r149c := chkF_ok (D := 259) (hst := jM_st (by decide +kernel)) (T := [r1c, r52c, gwg]) (N := []) (sp := []) (fu := 49) (fa_cons (vUq r1 (by decide)) (fa_cons (vUq r52 (by decide)) (fa_cons (vUq gw_ok (by decide)) (fa_nil)))) (by decide +kernel)
/-- X12_feast -/
def r150c : aCt := (230, [aR [314], aIt, aIt], [], [(some (aI (-1) (-1)), [(lLo, lHi), (iLo, iHi), (iLo, iHi)], []), (some (aIt), [(lLo, lHi), (0, 7), (0, 1)], [])], [(314, 0, 1), (314, 48, 50), (328, 0, 64)])
set_option maxRecDepth 100000 in
theorem r150 : vC tS tR jM 260 r150c := chkF_ok (D := 259) (hst := jM_st (by decide +kernel)) (T := [r1c, r20c, r52c, r53c, r54c, gfg]) (N := []) (sp := []) (fu := 62) (fa_cons (vUq r1 (by decide)) (fa_cons (vUq r20 (by decide)) (fa_cons (vUq r52 (by decide)) (fa_cons (vUq r53 (by decide)) (fa_cons (vUq r54 (by decide)) (fa_cons (vUq gf_ok (by decide)) (fa_nil))))))) (by decide +kernel)
/-- X12_copy -/
def r151c : aCt := (192, [aR [326], aR [327]], [], [(none, [(lLo, lHi), (lLo, lHi)], [])], [(327, 0, 28)])
set_option maxRecDepth 100000 in
theorem r151 : vC tS tR jM 1 r151c := chkF_ok (D := 0) (hst := jM_st (by decide +kernel)) (T := []) (N := [(2, [(0, aR [326]), (1, aR [327]), (2, aI 0 0)], [], 27, []),
  (2, [(0, aR [326]), (1, aR [327]), (2, aI 1 1)], [], 26, []),
  (2, [(0, aR [326]), (1, aR [327]), (2, aI 2 2)], [], 25, []),
  (2, [(0, aR [326]), (1, aR [327]), (2, aI 3 3)], [], 24, []),
  (2, [(0, aR [326]), (1, aR [327]), (2, aI 4 4)], [], 23, []),
  (2, [(0, aR [326]), (1, aR [327]), (2, aI 5 5)], [], 22, []),
  (2, [(0, aR [326]), (1, aR [327]), (2, aI 6 6)], [], 21, []),
  (2, [(0, aR [326]), (1, aR [327]), (2, aI 7 7)], [], 20, []),
  (2, [(0, aR [326]), (1, aR [327]), (2, aI 8 8)], [], 19, []),
  (2, [(0, aR [326]), (1, aR [327]), (2, aI 9 9)], [], 18, []),
  (2, [(0, aR [326]), (1, aR [327]), (2, aI 10 10)], [], 17, []),
  (2, [(0, aR [326]), (1, aR [327]), (2, aI 11 11)], [], 16, []),
  (2, [(0, aR [326]), (1, aR [327]), (2, aI 12 12)], [], 15, []),
  (2, [(0, aR [326]), (1, aR [327]), (2, aI 13 13)], [], 14, []),
  (2, [(0, aR [326]), (1, aR [327]), (2, aI 14 14)], [], 13, []),
  (2, [(0, aR [326]), (1, aR [327]), (2, aI 15 15)], [], 12, []),
  (2, [(0, aR [326]), (1, aR [327]), (2, aI 16 16)], [], 11, []),
  (2, [(0, aR [326]), (1, aR [327]), (2, aI 17 17)], [], 10, []),
  (2, [(0, aR [326]), (1, aR [327]), (2, aI 18 18)], [], 9, []),
  (2, [(0, aR [326]), (1, aR [327]), (2, aI 19 19)], [], 8, []),
  (2, [(0, aR [326]), (1, aR [327]), (2, aI 20 20)], [], 7, []),
  (2, [(0, aR [326]), (1, aR [327]), (2, aI 21 21)], [], 6, []),
  (2, [(0, aR [326]), (1, aR [327]), (2, aI 22 22)], [], 5, []),
  (2, [(0, aR [326]), (1, aR [327]), (2, aI 23 23)], [], 4, []),
  (2, [(0, aR [326]), (1, aR [327]), (2, aI 24 24)], [], 3, []),
  (2, [(0, aR [326]), (1, aR [327]), (2, aI 25 25)], [], 2, []),
  (2, [(0, aR [326]), (1, aR [327]), (2, aI 26 26)], [], 1, []),
  (2, [(0, aR [326]), (1, aR [327]), (2, aI 27 27)], [], 0, [])]) (sp := [(2, 2)]) (fu := 19) (fa_nil) (by decide +kernel)
/-- X12_drawsOf -/
def r152c : aCt := (202, [aR [314], aR [327], aI 0 3, aI 0 7], [], [(some (aI (-99) 99), [(lLo, lHi), (lLo, lHi), (lLo, lHi), (lLo, lHi)], []), (some (aI (-1000000) (-1000000)), [(lLo, lHi), (lLo, lHi), (lLo, lHi), (lLo, lHi)], [])], [(314, 8, 15), (314, 17, 18), (318, 99, 101), (318, 102, 103), (318, 108, 109), (318, 119, 120), (318, 121, 122), (330, 0, 8191)])
set_option maxRecDepth 100000 in
theorem r152 : vC tS tR jM 806 r152c := chkF_ok (D := 805) (hst := jM_st (by decide +kernel)) (T := [r53c, r54c, r56c, r55c, r57c, r58c, r59c, r60c, r61c, r62c]) (N := [(10, [(0, aR [314]), (1, aR [327]), (2, aI 0 0), (3, aI 0 7), (4, aI 0 255)], [], 0, []),
  (10, [(0, aR [314]), (1, aR [327]), (2, aI 1 1), (3, aI 0 7), (4, aI 0 255)], [], 0, []),
  (10, [(0, aR [314]), (1, aR [327]), (2, aI 2 2), (3, aI 0 7), (4, aI 0 255)], [], 0, []),
  (10, [(0, aR [314]), (1, aR [327]), (2, aI 3 3), (3, aI 0 7), (4, aI 0 255)], [], 0, [])]) (sp := [(10, 2)]) (fu := 94) (fa_cons (vUq r53 (by decide)) (fa_cons (vUq r54 (by decide)) (fa_cons (vUq r56 (by decide)) (fa_cons (vUq r55 (by decide)) (fa_cons (vUq r57 (by decide)) (fa_cons (vUq r58 (by decide)) (fa_cons (vUq r59 (by decide)) (fa_cons (vUq r60 (by decide)) (fa_cons (vUq r61 (by decide)) (fa_cons (vUq r62 (by decide)) (fa_nil))))))))))) (by decide +kernel)
/-- X12_goesOf -/
def r153c : aCt := (203, [aR [314], aR [327], aI 0 3], [], [(some (aI (-1) 7), [(lLo, lHi), (lLo, lHi), (lLo, lHi)], [])], [(314, 8, 15), (314, 17, 18), (318, 99, 101), (318, 102, 103), (318, 108, 109), (318, 119, 120), (318, 121, 122), (330, 0, 8191)])
set_option maxRecDepth 100000 in
theorem r153 : vC tS tR jM 807 r153c := chkF_ok (D := 806) (hst := jM_st (by decide +kernel)) (T := [r152c]) (N := [(8, [(0, aR [314]), (1, aR [327]), (2, aI 0 3), (3, aI (-1) 7), (4, aI (-99) 99), (5, aI 0 8)], [], 0, [(5, 1, 8, true)])]) (sp := []) (fu := 33) (fa_cons (vUq r152 (by decide)) (fa_nil)) (by decide +kernel)
/-- X12_goDay -/
def r154c : aCt := (204, [aR [314], aR [327]], [], [(some (aI 0 0), [(lLo, lHi), (lLo, lHi)], []), (some (aI 0 4), [(lLo, lHi), (lLo, lHi)], [])], [(314, 8, 15), (314, 17, 18), (314, 39, 41), (318, 99, 101), (318, 102, 103), (318, 108, 109), (318, 119, 120), (318, 121, 122), (327, 0, 1), (327, 2, 3), (327, 4, 5), (327, 6, 7), (327, 8, 9), (327, 10, 11), (327, 12, 13), (327, 14, 15), (327, 17, 18), (327, 19, 20), (327, 21, 22), (327, 23, 24), (327, 25, 208), (328, 0, 64), (330, 0, 8191)])
set_option maxRecDepth 100000 in
theorem r154 : vC tS tR jM 808 r154c := chkF_ok (D := 807) (hst := jM_st (by decide +kernel)) (T := [r52c, r153c, r65c, r66c, r67c]) (N := [(22, [(0, aR [314]), (1, aR [327]), (2, aI 0 0), (3, aI 0 0)], [(314, 39, 0, 0), (314, 40, 0, 0)], 186, []),
  (166, [(0, aR [314]), (1, aR [327]), (2, aI 0 4), (3, aI 1 178)], [(314, 39, 0, 15), (314, 40, 0, 255), (327, 27, 60, 60)], 0, [(3, 1, 178, true)]),
  (38, [(0, aR [314]), (1, aR [327]), (2, aI 0 0), (3, aI 0 0), (4, aI (-1) (-1))], [(314, 39, 0, 0), (314, 40, 0, 0), (314, 27, 1, 4)], 185, []),
  (38, [(0, aR [314]), (1, aR [327]), (2, aI 0 0), (3, aI 0 0), (4, aI 0 0)], [(314, 39, 0, 0), (314, 40, 0, 0), (314, 27, 1, 4)], 185, []),
  (38, [(0, aR [314]), (1, aR [327]), (2, aI 0 0), (3, aI 0 0), (4, aI 1 1)], [(314, 39, 0, 0), (314, 40, 0, 0), (314, 27, 1, 4)], 185, []),
  (38, [(0, aR [314]), (1, aR [327]), (2, aI 0 0), (3, aI 0 0), (4, aI 2 2)], [(314, 39, 0, 0), (314, 40, 0, 0), (314, 27, 1, 4)], 185, []),
  (38, [(0, aR [314]), (1, aR [327]), (2, aI 0 0), (3, aI 0 0), (4, aI 3 3)], [(314, 39, 0, 0), (314, 40, 0, 0), (314, 27, 1, 4)], 185, []),
  (38, [(0, aR [314]), (1, aR [327]), (2, aI 0 0), (3, aI 0 0), (4, aI 4 4)], [(314, 39, 0, 0), (314, 40, 0, 0), (314, 27, 1, 4)], 185, []),
  (38, [(0, aR [314]), (1, aR [327]), (2, aI 0 0), (3, aI 0 0), (4, aI 5 5)], [(314, 39, 0, 0), (314, 40, 0, 0), (314, 27, 1, 4)], 185, []),
  (38, [(0, aR [314]), (1, aR [327]), (2, aI 0 0), (3, aI 0 0), (4, aI 6 6)], [(314, 39, 0, 0), (314, 40, 0, 0), (314, 27, 1, 4)], 185, []),
  (38, [(0, aR [314]), (1, aR [327]), (2, aI 0 0), (3, aI 0 0), (4, aI 7 7)], [(314, 39, 0, 0), (314, 40, 0, 0), (314, 27, 1, 4)], 185, []),
  (22, [(0, aR [314]), (1, aR [327]), (2, aI 0 1), (3, aI 1 1), (4, aI (-1) 7)], [(314, 40, 0, 128), (314, 27, 1, 4), (314, 39, 0, 1)], 184, []),
  (38, [(0, aR [314]), (1, aR [327]), (2, aI 0 1), (3, aI 1 1), (4, aI (-1) (-1))], [(314, 40, 0, 128), (314, 27, 2, 4), (314, 39, 0, 1)], 183, []),
  (38, [(0, aR [314]), (1, aR [327]), (2, aI 0 1), (3, aI 1 1), (4, aI 0 0)], [(314, 40, 0, 128), (314, 27, 2, 4), (314, 39, 0, 1)], 183, []),
  (38, [(0, aR [314]), (1, aR [327]), (2, aI 0 1), (3, aI 1 1), (4, aI 1 1)], [(314, 40, 0, 128), (314, 27, 2, 4), (314, 39, 0, 1)], 183, []),
  (38, [(0, aR [314]), (1, aR [327]), (2, aI 0 1), (3, aI 1 1), (4, aI 2 2)], [(314, 40, 0, 128), (314, 27, 2, 4), (314, 39, 0, 1)], 183, []),
  (38, [(0, aR [314]), (1, aR [327]), (2, aI 0 1), (3, aI 1 1), (4, aI 3 3)], [(314, 40, 0, 128), (314, 27, 2, 4), (314, 39, 0, 1)], 183, []),
  (38, [(0, aR [314]), (1, aR [327]), (2, aI 0 1), (3, aI 1 1), (4, aI 4 4)], [(314, 40, 0, 128), (314, 27, 2, 4), (314, 39, 0, 1)], 183, []),
  (38, [(0, aR [314]), (1, aR [327]), (2, aI 0 1), (3, aI 1 1), (4, aI 5 5)], [(314, 40, 0, 128), (314, 27, 2, 4), (314, 39, 0, 1)], 183, []),
  (38, [(0, aR [314]), (1, aR [327]), (2, aI 0 1), (3, aI 1 1), (4, aI 6 6)], [(314, 40, 0, 128), (314, 27, 2, 4), (314, 39, 0, 1)], 183, []),
  (38, [(0, aR [314]), (1, aR [327]), (2, aI 0 1), (3, aI 1 1), (4, aI 7 7)], [(314, 40, 0, 128), (314, 27, 2, 4), (314, 39, 0, 1)], 183, []),
  (22, [(0, aR [314]), (1, aR [327]), (2, aI 0 2), (3, aI 2 2), (4, aI (-1) 7)], [(314, 40, 0, 255), (314, 27, 2, 4), (314, 39, 0, 3)], 182, []),
  (38, [(0, aR [314]), (1, aR [327]), (2, aI 0 2), (3, aI 2 2), (4, aI (-1) (-1))], [(314, 40, 0, 255), (314, 27, 3, 4), (314, 39, 0, 3)], 181, []),
  (38, [(0, aR [314]), (1, aR [327]), (2, aI 0 2), (3, aI 2 2), (4, aI 0 0)], [(314, 40, 0, 255), (314, 27, 3, 4), (314, 39, 0, 3)], 181, []),
  (38, [(0, aR [314]), (1, aR [327]), (2, aI 0 2), (3, aI 2 2), (4, aI 1 1)], [(314, 40, 0, 255), (314, 27, 3, 4), (314, 39, 0, 3)], 181, []),
  (38, [(0, aR [314]), (1, aR [327]), (2, aI 0 2), (3, aI 2 2), (4, aI 2 2)], [(314, 40, 0, 255), (314, 27, 3, 4), (314, 39, 0, 3)], 181, []),
  (38, [(0, aR [314]), (1, aR [327]), (2, aI 0 2), (3, aI 2 2), (4, aI 3 3)], [(314, 40, 0, 255), (314, 27, 3, 4), (314, 39, 0, 3)], 181, []),
  (38, [(0, aR [314]), (1, aR [327]), (2, aI 0 2), (3, aI 2 2), (4, aI 4 4)], [(314, 40, 0, 255), (314, 27, 3, 4), (314, 39, 0, 3)], 181, []),
  (38, [(0, aR [314]), (1, aR [327]), (2, aI 0 2), (3, aI 2 2), (4, aI 5 5)], [(314, 40, 0, 255), (314, 27, 3, 4), (314, 39, 0, 3)], 181, []),
  (38, [(0, aR [314]), (1, aR [327]), (2, aI 0 2), (3, aI 2 2), (4, aI 6 6)], [(314, 40, 0, 255), (314, 27, 3, 4), (314, 39, 0, 3)], 181, []),
  (38, [(0, aR [314]), (1, aR [327]), (2, aI 0 2), (3, aI 2 2), (4, aI 7 7)], [(314, 40, 0, 255), (314, 27, 3, 4), (314, 39, 0, 3)], 181, []),
  (22, [(0, aR [314]), (1, aR [327]), (2, aI 0 3), (3, aI 3 3), (4, aI (-1) 7)], [(314, 40, 0, 255), (314, 27, 3, 4), (314, 39, 0, 7)], 180, []),
  (38, [(0, aR [314]), (1, aR [327]), (2, aI 0 3), (3, aI 3 3), (4, aI (-1) (-1))], [(314, 40, 0, 255), (314, 27, 4, 4), (314, 39, 0, 7)], 179, []),
  (38, [(0, aR [314]), (1, aR [327]), (2, aI 0 3), (3, aI 3 3), (4, aI 0 0)], [(314, 40, 0, 255), (314, 27, 4, 4), (314, 39, 0, 7)], 179, []),
  (38, [(0, aR [314]), (1, aR [327]), (2, aI 0 3), (3, aI 3 3), (4, aI 1 1)], [(314, 40, 0, 255), (314, 27, 4, 4), (314, 39, 0, 7)], 179, []),
  (38, [(0, aR [314]), (1, aR [327]), (2, aI 0 3), (3, aI 3 3), (4, aI 2 2)], [(314, 40, 0, 255), (314, 27, 4, 4), (314, 39, 0, 7)], 179, []),
  (38, [(0, aR [314]), (1, aR [327]), (2, aI 0 3), (3, aI 3 3), (4, aI 3 3)], [(314, 40, 0, 255), (314, 27, 4, 4), (314, 39, 0, 7)], 179, []),
  (38, [(0, aR [314]), (1, aR [327]), (2, aI 0 3), (3, aI 3 3), (4, aI 4 4)], [(314, 40, 0, 255), (314, 27, 4, 4), (314, 39, 0, 7)], 179, []),
  (38, [(0, aR [314]), (1, aR [327]), (2, aI 0 3), (3, aI 3 3), (4, aI 5 5)], [(314, 40, 0, 255), (314, 27, 4, 4), (314, 39, 0, 7)], 179, []),
  (38, [(0, aR [314]), (1, aR [327]), (2, aI 0 3), (3, aI 3 3), (4, aI 6 6)], [(314, 40, 0, 255), (314, 27, 4, 4), (314, 39, 0, 7)], 179, []),
  (38, [(0, aR [314]), (1, aR [327]), (2, aI 0 3), (3, aI 3 3), (4, aI 7 7)], [(314, 40, 0, 255), (314, 27, 4, 4), (314, 39, 0, 7)], 179, []),
  (22, [(0, aR [314]), (1, aR [327]), (2, aI 0 4), (3, aI 4 4), (4, aI (-1) 7)], [(314, 40, 0, 255), (314, 27, 4, 4), (314, 39, 0, 15)], 178, [])]) (sp := [(22, 3), (38, 4)]) (fu := 60) (fa_cons (vUq r52 (by decide)) (fa_cons (vUq r153 (by decide)) (fa_cons (vUq r65 (by decide)) (fa_cons (vUq r66 (by decide)) (fa_cons (vUq r67 (by decide)) (fa_nil)))))) (by decide +kernel)
/-- X12_soon -/
def r155c : aCt := (231, [aR [314], aIt], [], [(some (aI (-1) (-1)), [(lLo, lHi), (lLo, lHi)], []), (some (aI 1 60), [(lLo, lHi), (lLo, lHi)], [])], [(314, 0, 1), (314, 8, 15), (314, 17, 18), (314, 39, 41), (318, 99, 101), (318, 102, 103), (318, 108, 109), (318, 119, 120), (318, 121, 122), (327, 0, 208), (328, 0, 64), (330, 0, 8191)])
set_option maxRecDepth 100000 in
theorem r155 : vC tS tR jM 809 r155c := chkF_ok (D := 808) (hst := jM_st (by decide +kernel)) (T := [r19c, r151c, r154c, r6c]) (N := [(28, [(0, aR [314]), (1, aI 0 3), (2, aI 1 61)], [(314, 0, 0, 0)], 0, [(2, 1, 61, true)])]) (sp := []) (fu := 23) (fa_cons (vUq r19 (by decide)) (fa_cons (vUq r151 (by decide)) (fa_cons (vUq r154 (by decide)) (fa_cons (vUq r6 (by decide)) (fa_nil))))) (by decide +kernel)
/-- X12_isIn -/
def r156c : aCt := (155, [aLt, aL 1 1, aL 999 999], [], [(some (aI 1 1), [(1, 999), (lLo, lHi), (lLo, lHi)], []), (some (aI 0 0), [(lLo, lHi), (lLo, lHi), (lLo, lHi)], [])], [])
theorem r156 : vC tS tR jM 1 r156c := isin_ok (1) (1) (999) (999)
/-- X12_worn -/
def r157c : aCt := (232, [aR [314], aIt, aIt], [], [(some (aI (-1) (-1)), [(lLo, lHi), (lLo, lHi), (lLo, lHi)], []), (some (aI 0 60), [(lLo, lHi), (lLo, lHi), (lLo, lHi)], [])], [(314, 0, 1), (314, 8, 15), (314, 17, 18), (314, 39, 41), (318, 99, 101), (318, 102, 103), (318, 108, 109), (318, 119, 120), (318, 121, 122), (327, 0, 208), (328, 0, 64), (330, 0, 8191)])
set_option maxRecDepth 100000 in
theorem r157 : vC tS tR jM 809 r157c := chkF_ok (D := 808) (hst := jM_st (by decide +kernel)) (T := [r1c, r156c, r151c, r154c]) (N := [(40, [(0, aR [314]), (1, aI 0 7), (2, aI 1 999), (3, aI 0 61)], [(314, 0, 0, 0)], 0, [(3, 1, 61, true)])]) (sp := []) (fu := 28) (fa_cons (vUq r1 (by decide)) (fa_cons (vUq r156 (by decide)) (fa_cons (vUq r151 (by decide)) (fa_cons (vUq r154 (by decide)) (fa_nil))))) (by decide +kernel)
/-- X12_seen -/
def r158c : aCt := (233, [aR [314], aIt, aIt], [], [(some (aI 1 10), [(lLo, lHi), (0, 7), (iLo, iHi)], []), (some (aI (-1) (-1)), [(lLo, lHi), (iLo, iHi), (iLo, iHi)], [])], [(314, 0, 1), (314, 51, 52), (332, 0, 20)])
set_option maxRecDepth 100000 in
theorem r158 : vC tS tR jM 2 r158c := chkF_ok (D := 1) (hst := jM_st (by decide +kernel)) (T := [r1c]) (N := []) (sp := []) (fu := 48) (fa_cons (vUq r1 (by decide)) (fa_nil)) (by decide +kernel)
/-- X12_has -/
def r159c : aCt := (156, [aIt, aI iLo 11], [], [(some (aI 0 0), [(iLo, iHi), (iLo, 11)], []), (some (aI 1 1), [(iLo, iHi), (iLo, 11)], [])], [])
set_option maxRecDepth 100000 in
theorem r159 : vC tS tR jM 1 r159c := chkF_ok (D := 0) (hst := jM_st (by decide +kernel)) (T := []) (N := []) (sp := []) (fu := 17) (fa_nil) (by decide +kernel)
/-- X12_wallsBy -/
def r160c : aCt := (235, [aR [314], aIt], [], [(some (aIt), [(lLo, lHi), (iLo, iHi)], [])], [])
set_option maxRecDepth 100000 in
theorem r160 : vC tS tR jM 1 r160c := chkF_ok (D := 0) (hst := jM_st (by decide +kernel)) (T := []) (N := []) (sp := []) (fu := 21) (fa_nil) (by decide +kernel)
/-- X12_isSo -/
def r161c : aCt := (234, [aR [314], aIt], [], [(some (aI 1 1), [(lLo, lHi), (lLo, lHi)], []), (some (aI 0 0), [(lLo, lHi), (lLo, lHi)], [])], [])
set_option maxRecDepth 100000 in
theorem r161 : vC tS tR jM 4 r161c := chkF_ok (D := 3) (hst := jM_st (by decide +kernel)) (T := [r53c]) (N := [(8, [(0, aR [314]), (1, aIt), (2, aI 0 255), (3, aI 0 10)], [], 0, [(3, 1, 10, true)])]) (sp := []) (fu := 33) (fa_cons (vUq r53 (by decide)) (fa_nil)) (by decide +kernel)
