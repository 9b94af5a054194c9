/-! L2: contracts of the reference -/
/-- X12_couldBe -/
def r162c : aCt := (236, [aR [314], aIt], [], [(some (aI 0 0), [(lLo, lHi), (iLo, iHi)], []), (some (aI 1 1), [(lLo, lHi), (iLo, 99)], [])], [])
set_option maxRecDepth 100000 in
theorem r162 : vC tS tR jM 5 r162c := chkF_ok (D := 4) (hst := jM_st (by decide +kernel)) (T := [r159c, r160c, r161c]) (N := []) (sp := []) (fu := 30) (fa_cons (vUq r159 (by decide)) (fa_cons (vUq r160 (by decide)) (fa_cons (vUq r161 (by decide)) (fa_nil)))) (by decide +kernel)
/-- X12_knocked -/
def r163c : aCt := (237, [aR [314], aIt], [], [(some (aI (-1) (-1)), [(lLo, lHi), (lLo, lHi)], []), (some (aIt), [(lLo, lHi), (lLo, lHi)], [])], [(314, 0, 1)])
set_option maxRecDepth 100000 in
theorem r163 : vC tS tR jM 6 r163c := chkF_ok (D := 5) (hst := jM_st (by decide +kernel)) (T := [r162c]) (N := [(23, [(0, aR [314]), (1, aI (-1) iHi), (2, aIt), (3, aI 0 100)], [(314, 0, 0, 0), (314, 26, 1, 12)], 0, [(3, 1, 100, true)])]) (sp := []) (fu := 21) (fa_cons (vUq r162 (by decide)) (fa_nil)) (by decide +kernel)
/-- X12_has -/
def r164c : aCt := (156, [aI 0 255, aI 0 0], [], [(some (aI 0 0), [(0, 255), (0, 0)], []), (some (aI 1 1), [(0, 255), (0, 0)], [])], [])
set_option maxRecDepth 100000 in
theorem r164 : vC tS tR jM 1 r164c := chkF_ok (D := 0) (hst := jM_st (by decide +kernel)) (T := []) (N := []) (sp := []) (fu := 17) (fa_nil) (by decide +kernel)
/-- J9_abs_0f7a4 -/
def r165c : aCt := (266, [aIt], [], [(some (aIt), [(iLo, iHi)], [])], [])
set_option maxRecDepth 100000 in
theorem r165 : vC tS tR jM 1 r165c := chkF_ok (D := 0) (hst := jM_st (by decide +kernel)) (T := []) (N := []) (sp := []) (fu := 13) (fa_nil) (by decide +kernel)
/-- X12_has -/
def r166c : aCt := (156, [aI 0 255, aI 0 1], [], [(some (aI 0 0), [(0, 255), (0, 1)], []), (some (aI 1 1), [(0, 255), (0, 1)], [])], [])
set_option maxRecDepth 100000 in
theorem r166 : vC tS tR jM 1 r166c := chkF_ok (D := 0) (hst := jM_st (by decide +kernel)) (T := []) (N := []) (sp := []) (fu := 17) (fa_nil) (by decide +kernel)
/-- X12_has -/
def r167c : aCt := (156, [aI 0 255, aI 0 2], [], [(some (aI 0 0), [(0, 255), (0, 2)], []), (some (aI 1 1), [(0, 255), (0, 2)], [])], [])
set_option maxRecDepth 100000 in
theorem r167 : vC tS tR jM 1 r167c := chkF_ok (D := 0) (hst := jM_st (by decide +kernel)) (T := []) (N := []) (sp := []) (fu := 17) (fa_nil) (by decide +kernel)
/-- X12_has -/
def r168c : aCt := (156, [aI 0 255, aI 0 3], [], [(some (aI 0 0), [(0, 255), (0, 3)], []), (some (aI 1 1), [(0, 255), (0, 3)], [])], [])
set_option maxRecDepth 100000 in
theorem r168 : vC tS tR jM 1 r168c := chkF_ok (D := 0) (hst := jM_st (by decide +kernel)) (T := []) (N := []) (sp := []) (fu := 17) (fa_nil) (by decide +kernel)
/-- X12_has -/
def r169c : aCt := (156, [aI 0 255, aI 0 4], [], [(some (aI 0 0), [(0, 255), (0, 4)], []), (some (aI 1 1), [(0, 255), (0, 4)], [])], [])
set_option maxRecDepth 100000 in
theorem r169 : vC tS tR jM 1 r169c := chkF_ok (D := 0) (hst := jM_st (by decide +kernel)) (T := []) (N := []) (sp := []) (fu := 17) (fa_nil) (by decide +kernel)
/-- X12_has -/
def r170c : aCt := (156, [aI 0 255, aI 0 5], [], [(some (aI 0 0), [(0, 255), (0, 5)], []), (some (aI 1 1), [(0, 255), (0, 5)], [])], [])
set_option maxRecDepth 100000 in
theorem r170 : vC tS tR jM 1 r170c := chkF_ok (D := 0) (hst := jM_st (by decide +kernel)) (T := []) (N := []) (sp := []) (fu := 17) (fa_nil) (by decide +kernel)
/-- X12_ask -/
def r171c : aCt := (238, [aR [314]], [], [(some (aI (-1) (-1)), [(lLo, lHi)], []), (some (aI (-1) 7), [(lLo, lHi)], [])], [(314, 0, 1)])
set_option maxRecDepth 100000 in
theorem r171 : vC tS tR jM 6 r171c := chkF_ok (D := 5) (hst := jM_st (by decide +kernel)) (T := [r162c, r160c, r53c, r54c, r165c]) (N := [(20, [(0, aR [314]), (1, aI (-1) 7), (2, aIt), (3, aI 0 8)], [(314, 0, 0, 0), (314, 26, 1, 12)], 101, [(3, 102, 8, true)]),
  (37, [(0, aR [314]), (1, aI (-1) 7), (2, aIt), (3, aI 0 7), (4, aIt), (5, aI 0 1), (6, aI 0 100)], [(314, 0, 0, 0), (314, 26, 1, 12), (314, 25, 1, 8)], 0, [(3, 102, 8, true), (6, 1, 100, true)])]) (sp := []) (fu := 32) (fa_cons (vUq r162 (by decide)) (fa_cons (vUq r160 (by decide)) (fa_cons (vUq r53 (by decide)) (fa_cons (vUq r54 (by decide)) (fa_cons (vUq r165 (by decide)) (fa_nil)))))) (by decide +kernel)
/-- X12_isIn -/
def r172c : aCt := (155, [aLt, aL 1 1, aL 0 255], [], [(some (aI 1 1), [(1, 255), (lLo, lHi), (lLo, lHi)], []), (some (aI 0 0), [(lLo, lHi), (lLo, lHi), (lLo, lHi)], [])], [])
theorem r172 : vC tS tR jM 1 r172c := isin_ok (1) (1) (0) (255)
/-- X12_walls -/
def r173c : aCt := (239, [aR [314], aIt], [], [(some (aI (-1) (-1)), [(lLo, lHi), (iLo, iHi)], []), (some (aI (-1) 4095), [(lLo, lHi), (lLo, lHi)], [])], [(314, 0, 1)])
set_option maxRecDepth 100000 in
theorem r173 : vC tS tR jM 4 r173c := chkF_ok (D := 3) (hst := jM_st (by decide +kernel)) (T := [r172c, r57c, r53c]) (N := [(36, [(0, aR [314]), (1, aI 1 255), (2, aI (-1) 4095), (3, aI 0 4096)], [(314, 0, 0, 0), (314, 26, 1, 12)], 0, [(3, 1, 4096, true)])]) (sp := []) (fu := 46) (fa_cons (vUq r172 (by decide)) (fa_cons (vUq r57 (by decide)) (fa_cons (vUq r53 (by decide)) (fa_nil)))) (by decide +kernel)
/-- X12_parted -/
def r174c : aCt := (241, [aR [314], aIt, aIt], [], [(some (aI (-1) (-1)), [(lLo, lHi), (iLo, iHi), (iLo, iHi)], []), (some (aI (-1) 4095), [(lLo, lHi), (lLo, lHi), (lLo, lHi)], [])], [(314, 0, 1)])
set_option maxRecDepth 100000 in
theorem r174 : vC tS tR jM 3 r174c := chkF_ok (D := 2) (hst := jM_st (by decide +kernel)) (T := [r1c, r57c, rchc, r54c]) (N := [(33, [(0, aR [314]), (1, aI 0 7), (2, aI 0 7), (3, aI (-1) 4095), (4, aI 0 4096)], [(314, 0, 0, 0)], 0, [(4, 1, 4096, true)])]) (sp := []) (fu := 45) (fa_cons (vUq r1 (by decide)) (fa_cons (vUq r57 (by decide)) (fa_cons (vUq rch_ok (by decide)) (fa_cons (vUq r54 (by decide)) (fa_nil))))) (by decide +kernel)
/-- X12_draws -/
def r175c : aCt := (242, [aR [314], aIt, aIt], [], [(some (aI (-1000000) (-1000000)), [(lLo, lHi), (iLo, iHi), (iLo, iHi)], []), (some (aI (-99) 99), [(lLo, lHi), (0, 3), (0, 7)], [])], [(314, 0, 1), (314, 8, 15), (314, 17, 18), (318, 99, 101), (318, 102, 103), (318, 108, 109), (318, 119, 120), (318, 121, 122), (328, 0, 64), (330, 0, 8191)])
set_option maxRecDepth 100000 in
theorem r175 : vC tS tR jM 807 r175c := chkF_ok (D := 806) (hst := jM_st (by decide +kernel)) (T := [r19c, r1c, r52c, r63c]) (N := []) (sp := []) (fu := 31) (fa_cons (vUq r19 (by decide)) (fa_cons (vUq r1 (by decide)) (fa_cons (vUq r52 (by decide)) (fa_cons (vUq r63 (by decide)) (fa_nil))))) (by decide +kernel)
/-- X12_goes -/
def r176c : aCt := (243, [aR [314], aIt], [], [(some (aI (-1) 7), [(lLo, lHi), (0, 3)], []), (some (aI (-1) (-1)), [(lLo, lHi), (iLo, iHi)], [])], [(314, 0, 1), (314, 8, 15), (314, 17, 18), (318, 99, 101), (318, 102, 103), (318, 108, 109), (318, 119, 120), (318, 121, 122), (328, 0, 64), (330, 0, 8191)])
set_option maxRecDepth 100000 in
theorem r176 : vC tS tR jM 808 r176c := chkF_ok (D := 807) (hst := jM_st (by decide +kernel)) (T := [r19c, r52c, r64c]) (N := []) (sp := []) (fu := 26) (fa_cons (vUq r19 (by decide)) (fa_cons (vUq r52 (by decide)) (fa_cons (vUq r64 (by decide)) (fa_nil)))) (by decide +kernel)
/-- X12_goers -/
def r177c : aCt := (244, [aR [314], aIt], [], [(some (aI (-1) (-1)), [(lLo, lHi), (iLo, iHi)], []), (some (aI 0 15), [(lLo, lHi), (lLo, lHi)], [])], [(314, 0, 1), (314, 8, 15), (314, 17, 18), (318, 99, 101), (318, 102, 103), (318, 108, 109), (318, 119, 120), (318, 121, 122), (328, 0, 64), (330, 0, 8191)])
set_option maxRecDepth 100000 in
theorem r177 : vC tS tR jM 808 r177c := chkF_ok (D := 807) (hst := jM_st (by decide +kernel)) (T := [r1c, r52c, r64c]) (N := [(30, [(0, aR [314]), (1, aI 0 7), (2, aI 0 15), (3, aI 0 4)], [(314, 0, 0, 0)], 0, [(3, 1, 4, true)])]) (sp := []) (fu := 28) (fa_cons (vUq r1 (by decide)) (fa_cons (vUq r52 (by decide)) (fa_cons (vUq r64 (by decide)) (fa_nil)))) (by decide +kernel)
/-- X12_isGame -/
def r178c : aCt := (245, [aR [314], aIt, aIt], [], [(some (aI 1 1), [(lLo, lHi), (0, 3), (0, 3)], []), (some (aI 0 0), [(lLo, lHi), (iLo, iHi), (iLo, iHi)], [])], [])
set_option maxRecDepth 100000 in
theorem r178 : vC tS tR jM 2 r178c := chkF_ok (D := 1) (hst := jM_st (by decide +kernel)) (T := [r19c]) (N := []) (sp := []) (fu := 21) (fa_cons (vUq r19 (by decide)) (fa_nil)) (by decide +kernel)
/-- X12_gameOf -/
def r179c : aCt := (246, [aR [314], aI 0 3, aI 0 3, aI 0 7, aI 0 7, aI 0 1], [], [(some (aI (-103) 99), [(lLo, lHi), (0, 3), (0, 3), (0, 7), (0, 7), (0, 1)], [])], [(314, 8, 15), (314, 17, 18), (318, 99, 101), (318, 102, 103), (318, 108, 109), (318, 119, 120), (318, 121, 122), (330, 0, 8191)])
set_option maxRecDepth 100000 in
theorem r179 : vC tS tR jM 807 r179c := chkF_ok (D := 806) (hst := jM_st (by decide +kernel)) (T := [r1c, r63c]) (N := []) (sp := []) (fu := 39) (fa_cons (vUq r1 (by decide)) (fa_cons (vUq r63 (by decide)) (fa_nil))) (by decide +kernel)
/-- X12_game -/
def r180c : aCt := (247, [aR [314], aIt, aIt, aIt, aIt, aIt], [], [(some (aI (-1000000) (-1000000)), [(lLo, lHi), (iLo, iHi), (iLo, iHi), (iLo, iHi), (iLo, iHi), (iLo, iHi)], []), (some (aI (-103) 99), [(lLo, lHi), (0, 3), (0, 3), (0, 7), (0, 7), (0, 1)], [])], [(314, 0, 1), (314, 8, 15), (314, 17, 18), (318, 99, 101), (318, 102, 103), (318, 108, 109), (318, 119, 120), (318, 121, 122), (328, 0, 64), (330, 0, 8191)])
set_option maxRecDepth 100000 in
theorem r180 : vC tS tR jM 808 r180c := chkF_ok (D := 807) (hst := jM_st (by decide +kernel)) (T := [r178c, r90c, r20c, r52c, r179c]) (N := []) (sp := []) (fu := 47) (fa_cons (vUq r178 (by decide)) (fa_cons (vUq r90 (by decide)) (fa_cons (vUq r20 (by decide)) (fa_cons (vUq r52 (by decide)) (fa_cons (vUq r179 (by decide)) (fa_nil)))))) (by decide +kernel)
/-- X12_rests -/
def r181c : aCt := (248, [aR [314], aIt, aIt, aIt], [], [(some (aI (-1) (-1)), [(lLo, lHi), (lLo, lHi), (lLo, lHi), (lLo, lHi)], []), (some (aIt), [(lLo, lHi), (lLo, lHi), (lLo, lHi), (lLo, lHi)], [])], [(314, 0, 1), (314, 8, 15), (314, 17, 18), (318, 99, 101), (318, 102, 103), (318, 108, 109), (318, 119, 120), (318, 121, 122), (328, 0, 64), (330, 0, 8191)])
set_option maxRecDepth 100000 in
theorem r181 : vC tS tR jM 808 r181c := chkF_ok (D := 807) (hst := jM_st (by decide +kernel)) (T := [r178c, r52c, r179c]) (N := [(38, [(0, aR [314]), (1, aI 0 3), (2, aI 0 3), (3, aI (-1) iHi), (4, aIt), (5, aI 0 8)], [(314, 0, 0, 0)], 90, [(5, 82, 8, true)]),
  (50, [(0, aR [314]), (1, aI 0 3), (2, aI 0 3), (3, aI (-1) iHi), (4, aIt), (5, aI 0 7), (6, aI 0 8)], [(314, 0, 0, 0), (314, 25, 1, 8)], 9, [(5, 82, 8, true), (6, 10, 8, true)]),
  (65, [(0, aR [314]), (1, aI 0 3), (2, aI 0 3), (3, aI (-1) iHi), (4, aIt), (5, aI 0 7), (6, aI 0 7), (7, aI 0 1), (8, aI 0 8)], [(314, 0, 0, 0), (314, 25, 1, 8)], 0, [(5, 82, 8, true), (6, 10, 8, true), (8, 1, 8, true)])]) (sp := []) (fu := 49) (fa_cons (vUq r178 (by decide)) (fa_cons (vUq r52 (by decide)) (fa_cons (vUq r179 (by decide)) (fa_nil)))) (by decide +kernel)
/-- X12_isIn -/
def r182c : aCt := (155, [aLt, aL 0 0, aL 100 100], [], [(some (aI 1 1), [(0, 100), (lLo, lHi), (lLo, lHi)], []), (some (aI 0 0), [(lLo, lHi), (lLo, lHi), (lLo, lHi)], [])], [])
theorem r182 : vC tS tR jM 1 r182c := isin_ok (0) (0) (100) (100)
/-- X12_odds -/
def r183c : aCt := (249, [aR [314], aIt, aIt], [], [(some (aI (-1) (-1)), [(lLo, lHi), (iLo, iHi), (iLo, iHi)], []), (some (aIt), [(lLo, lHi), (lLo, lHi), (lLo, lHi)], [])], [(314, 0, 1), (314, 8, 15), (314, 17, 18), (318, 99, 101), (318, 102, 103), (318, 108, 109), (318, 119, 120), (318, 121, 122), (328, 0, 64), (330, 0, 8191)])
set_option maxRecDepth 100000 in
theorem r183 : vC tS tR jM 807 r183c := chkF_ok (D := 806) (hst := jM_st (by decide +kernel)) (T := [r19c, r182c, r52c, r63c]) (N := [(45, [(0, aR [314]), (1, aI 0 3), (2, aI 0 100), (3, aIt), (4, aI 0 8)], [(314, 0, 0, 0)], 0, [(4, 1, 8, true)])]) (sp := []) (fu := 31) (fa_cons (vUq r19 (by decide)) (fa_cons (vUq r182 (by decide)) (fa_cons (vUq r52 (by decide)) (fa_cons (vUq r63 (by decide)) (fa_nil))))) (by decide +kernel)
/-- X12_isIn -/
def r184c : aCt := (155, [aLt, aL 0 0, aL 999 999], [], [(some (aI 1 1), [(0, 999), (lLo, lHi), (lLo, lHi)], []), (some (aI 0 0), [(lLo, lHi), (lLo, lHi), (lLo, lHi)], [])], [])
theorem r184 : vC tS tR jM 1 r184c := isin_ok (0) (0) (999) (999)
/-- X12_shares -/
def r185c : aCt := (250, [aR [314], aIt, aIt], [], [(some (aI (-1) (-1)), [(lLo, lHi), (iLo, iHi), (iLo, iHi)], []), (some (aIt), [(lLo, lHi), (lLo, lHi), (lLo, lHi)], []), (some (aI 0 0), [(lLo, lHi), (lLo, lHi), (lLo, lHi)], [])], [(314, 0, 1)])
set_option maxRecDepth 100000 in
theorem r185 : vC tS tR jM 2 r185c := chkF_ok (D := 1) (hst := jM_st (by decide +kernel)) (T := [r1c, r184c]) (N := [(32, [(0, aR [314]), (1, aI 0 7), (2, aI 0 999), (3, aIt), (4, aI 0 8)], [(314, 0, 0, 0)], 0, [(4, 1, 8, true)])]) (sp := []) (fu := 26) (fa_cons (vUq r1 (by decide)) (fa_cons (vUq r184 (by decide)) (fa_nil))) (by decide +kernel)
/-- X12_dark -/
def r186c : aCt := (258, [aR [314]], [], [(some (aI 0 255), [(lLo, lHi)], [])], [])
set_option maxRecDepth 100000 in
theorem r186 : vC tS tR jM 4 r186c := chkF_ok (D := 3) (hst := jM_st (by decide +kernel)) (T := [r53c]) (N := [(14, [(0, aR [314]), (1, aI 0 255), (2, aI 0 8)], [], 0, [(2, 1, 8, true)])]) (sp := []) (fu := 31) (fa_cons (vUq r53 (by decide)) (fa_nil)) (by decide +kernel)
/-- X12_openYards -/
def r187c : aCt := (257, [aR [314]], [], [(some (aIt), [(lLo, lHi)], [])], [])
set_option maxRecDepth 100000 in
theorem r187 : vC tS tR jM 2 r187c := chkF_ok (D := 1) (hst := jM_st (by decide +kernel)) (T := [r13c]) (N := [(4, [(0, aR [314]), (1, aIt), (2, aI 0 12)], [], 0, [(2, 1, 12, true)])]) (sp := []) (fu := 32) (fa_cons (vUq r13 (by decide)) (fa_nil)) (by decide +kernel)
/-- J9_max_7cf53 -/
def r188c : aCt := (267, [aI 0 0, aI 0 100000], [], [(some (aI 0 0), [(0, 0), (0, 0)], []), (some (aI 1 100000), [(0, 0), (1, 100000)], [])], [])
set_option maxRecDepth 100000 in
theorem r188 : vC tS tR jM 1 r188c := chkF_ok (D := 0) (hst := jM_st (by decide +kernel)) (T := []) (N := []) (sp := []) (fu := 13) (fa_nil) (by decide +kernel)
