/-! L2: contracts of the reference -/
/-- J9_max_7cf53 -/
def r162c : aCt := (267, [aI 0 0, aI 0 100000], [], [(some (aI 0 0), [(0, 0), (0, 0)], []), (some (aI 1 100000), [(0, 0), (1, 100000)], [])], [])
set_option maxRecDepth 100000 in
theorem r162 : vC tS tR jM 1 r162c := chk_ok (D := 0) (hst := jM_st (by decide +kernel)) (T := []) (N := []) (sp := []) (fu := 13) (fa_nil) (by decide +kernel)
/-- J9_max_7cf53 -/
def r163c : aCt := (267, [aI 0 100000, aI 0 100000], [], [(some (aI 0 100000), [(0, 100000), (0, 100000)], [])], [])
set_option maxRecDepth 100000 in
theorem r163 : vC tS tR jM 1 r163c := chk_ok (D := 0) (hst := jM_st (by decide +kernel)) (T := []) (N := []) (sp := []) (fu := 13) (fa_nil) (by decide +kernel)
/-- X12_farthest -/
def r164c : aCt := (253, [aR [314], aI 0 7], [], [(some (aI 0 100000), [(lLo, lHi), (lLo, lHi)], [])], [])
set_option maxRecDepth 100000 in
theorem r164 : vC tS tR jM 3 r164c := chk_ok (D := 2) (hst := jM_st (by decide +kernel)) (T := [r57c, r56c, r163c]) (N := [(4, [(0, aR [314]), (1, aI 0 7), (2, aI 0 100000), (3, aI 0 8)], [], 0, [(3, 1, 8, true)])]) (sp := []) (fu := 27) (fa_cons (vUp r57 (by decide)) (fa_cons (vUp r56 (by decide)) (fa_cons (vUp r163 (by decide)) (fa_nil)))) (by decide +kernel)
/-- X12_valueOf -/
def r165c : aCt := (254, [aR [314], aI 9 9, aI 0 7], [], [(some (aI (-100000) 0), [(lLo, lHi), (9, 9), (0, 7)], [])], [])
set_option maxRecDepth 100000 in
theorem r165 : vC tS tR jM 4 r165c := chk_ok (D := 3) (hst := jM_st (by decide +kernel)) (T := [r164c]) (N := []) (sp := []) (fu := 14) (fa_cons (vUp r164 (by decide)) (fa_nil)) (by decide +kernel)
/-- X12_greatest -/
def r166c : aCt := (255, [aR [314], aI 9 9], [], [(some (aI 0 7), [(lLo, lHi), (lLo, lHi)], [])], [(328, 0, 64)])
set_option maxRecDepth 100000 in
theorem r166 : vC tS tR jM 5 r166c := chk_ok (D := 4) (hst := jM_st (by decide +kernel)) (T := [r53c, r165c]) (N := [(34, [(0, aR [314]), (1, aI 9 9), (2, aI 0 7), (3, aI 0 8), (4, aI 1 8)], [], 0, [(4, 1, 8, true)])]) (sp := []) (fu := 25) (fa_cons (vUp r53 (by decide)) (fa_cons (vUp r165 (by decide)) (fa_nil))) (by decide +kernel)
/-- X12_valueOf -/
def r167c : aCt := (254, [aR [314], aI 8 8, aI 0 7], [], [(some (aI 0 100000), [(lLo, lHi), (8, 8), (0, 7)], [])], [])
set_option maxRecDepth 100000 in
theorem r167 : vC tS tR jM 4 r167c := chk_ok (D := 3) (hst := jM_st (by decide +kernel)) (T := [r164c]) (N := []) (sp := []) (fu := 13) (fa_cons (vUp r164 (by decide)) (fa_nil)) (by decide +kernel)
/-- X12_greatest -/
def r168c : aCt := (255, [aR [314], aI 8 8], [], [(some (aI 0 7), [(lLo, lHi), (lLo, lHi)], [])], [(328, 0, 64)])
set_option maxRecDepth 100000 in
theorem r168 : vC tS tR jM 5 r168c := chk_ok (D := 4) (hst := jM_st (by decide +kernel)) (T := [r53c, r167c]) (N := [(34, [(0, aR [314]), (1, aI 8 8), (2, aI 0 7), (3, aI 0 8), (4, aI 1 8)], [], 0, [(4, 1, 8, true)])]) (sp := []) (fu := 25) (fa_cons (vUp r53 (by decide)) (fa_cons (vUp r167 (by decide)) (fa_nil))) (by decide +kernel)
/-- X12_valueOf -/
def r169c : aCt := (254, [aR [314], aI 7 7, aI 0 7], [], [(some (aIt), [(lLo, lHi), (7, 7), (0, 7)], [])], [])
set_option maxRecDepth 100000 in
theorem r169 : vC tS tR jM 1 r169c := chk_ok (D := 0) (hst := jM_st (by decide +kernel)) (T := []) (N := []) (sp := []) (fu := 20) (fa_nil) (by decide +kernel)
/-- X12_greatest -/
def r170c : aCt := (255, [aR [314], aI 7 7], [], [(some (aI 0 3), [(lLo, lHi), (lLo, lHi)], [])], [(328, 0, 64)])
set_option maxRecDepth 100000 in
theorem r170 : vC tS tR jM 3 r170c := chk_ok (D := 2) (hst := jM_st (by decide +kernel)) (T := [r53c, r169c]) (N := [(34, [(0, aR [314]), (1, aI 7 7), (2, aI 0 3), (3, aI 0 4), (4, aI 1 4)], [], 0, [(4, 1, 4, true)])]) (sp := []) (fu := 25) (fa_cons (vUp r53 (by decide)) (fa_cons (vUp r169 (by decide)) (fa_nil))) (by decide +kernel)
/-- X12_valueOf -/
def r171c : aCt := (254, [aR [314], aI 6 6, aI 0 7], [], [(some (aIt), [(lLo, lHi), (6, 6), (0, 7)], [])], [])
set_option maxRecDepth 100000 in
theorem r171 : vC tS tR jM 3 r171c := chk_ok (D := 2) (hst := jM_st (by decide +kernel)) (T := [r15c]) (N := []) (sp := []) (fu := 17) (fa_cons (vUp r15 (by decide)) (fa_nil)) (by decide +kernel)
/-- X12_greatest -/
def r172c : aCt := (255, [aR [314], aI 6 6], [], [(some (aI 0 7), [(lLo, lHi), (lLo, lHi)], [])], [(328, 0, 64)])
set_option maxRecDepth 100000 in
theorem r172 : vC tS tR jM 4 r172c := chk_ok (D := 3) (hst := jM_st (by decide +kernel)) (T := [r53c, r171c]) (N := [(34, [(0, aR [314]), (1, aI 6 6), (2, aI 0 7), (3, aI 0 8), (4, aI 1 8)], [], 0, [(4, 1, 8, true)])]) (sp := []) (fu := 25) (fa_cons (vUp r53 (by decide)) (fa_cons (vUp r171 (by decide)) (fa_nil))) (by decide +kernel)
/-- X12_valueOf -/
def r173c : aCt := (254, [aR [314], aI 5 5, aI 0 7], [], [(some (aIt), [(lLo, lHi), (5, 5), (0, 7)], [])], [])
set_option maxRecDepth 100000 in
theorem r173 : vC tS tR jM 3 r173c := chk_ok (D := 2) (hst := jM_st (by decide +kernel)) (T := [r15c]) (N := []) (sp := []) (fu := 18) (fa_cons (vUp r15 (by decide)) (fa_nil)) (by decide +kernel)
/-- X12_greatest -/
def r174c : aCt := (255, [aR [314], aI 5 5], [], [(some (aI 0 7), [(lLo, lHi), (lLo, lHi)], [])], [(328, 0, 64)])
set_option maxRecDepth 100000 in
theorem r174 : vC tS tR jM 4 r174c := chk_ok (D := 3) (hst := jM_st (by decide +kernel)) (T := [r53c, r173c]) (N := [(34, [(0, aR [314]), (1, aI 5 5), (2, aI 0 7), (3, aI 0 8), (4, aI 1 8)], [], 0, [(4, 1, 8, true)])]) (sp := []) (fu := 25) (fa_cons (vUp r53 (by decide)) (fa_cons (vUp r173 (by decide)) (fa_nil))) (by decide +kernel)
/-- X12_valueOf -/
def r175c : aCt := (254, [aR [314], aI 4 4, aI 0 7], [], [(some (aI 0 999), [(lLo, lHi), (4, 4), (0, 7)], [])], [])
set_option maxRecDepth 100000 in
theorem r175 : vC tS tR jM 1 r175c := chk_ok (D := 0) (hst := jM_st (by decide +kernel)) (T := []) (N := []) (sp := []) (fu := 18) (fa_nil) (by decide +kernel)
/-- X12_greatest -/
def r176c : aCt := (255, [aR [314], aI 4 4], [], [(some (aI 0 7), [(lLo, lHi), (lLo, lHi)], [])], [(328, 0, 64)])
set_option maxRecDepth 100000 in
theorem r176 : vC tS tR jM 3 r176c := chk_ok (D := 2) (hst := jM_st (by decide +kernel)) (T := [r53c, r175c]) (N := [(34, [(0, aR [314]), (1, aI 4 4), (2, aI 0 7), (3, aI 0 8), (4, aI 1 8)], [], 0, [(4, 1, 8, true)])]) (sp := []) (fu := 25) (fa_cons (vUp r53 (by decide)) (fa_cons (vUp r175 (by decide)) (fa_nil))) (by decide +kernel)
/-- X12_openStreets -/
def r177c : aCt := (256, [aR [314]], [], [(some (aIt), [(lLo, lHi)], [])], [])
set_option maxRecDepth 100000 in
theorem r177 : vC tS tR jM 2 r177c := chk_ok (D := 1) (hst := jM_st (by decide +kernel)) (T := [r14c]) (N := [(4, [(0, aR [314]), (1, aIt), (2, aI 0 12)], [], 0, [(2, 1, 12, true)])]) (sp := []) (fu := 26) (fa_cons (vUp r14 (by decide)) (fa_nil)) (by decide +kernel)
/-- X12_has -/
def r178c : aCt := (156, [aI 0 0, aI 0 0], [], [(some (aI 0 0), [(0, 0), (0, 0)], [])], [])
set_option maxRecDepth 100000 in
theorem r178 : vC tS tR jM 1 r178c := chk_ok (D := 0) (hst := jM_st (by decide +kernel)) (T := []) (N := []) (sp := []) (fu := 16) (fa_nil) (by decide +kernel)
/-- X12_has -/
def r179c : aCt := (156, [aI 0 255, aIt], [], [(some (aI 0 0), [(0, 255), (iLo, iHi)], []), (some (aI 1 1), [(0, 255), (iLo, iHi)], [])], [])
set_option maxRecDepth 100000 in
theorem r179 : vC tS tR jM 1 r179c := chk_ok (D := 0) (hst := jM_st (by decide +kernel)) (T := []) (N := []) (sp := []) (fu := 17) (fa_nil) (by decide +kernel)
/-- X12_isIn -/
def r180c : aCt := (155, [aLt, aL 0 0, aL 99 99], [], [(some (aI 1 1), [(0, 99), (lLo, lHi), (lLo, lHi)], []), (some (aI 0 0), [(lLo, lHi), (lLo, lHi), (lLo, lHi)], [])], [])
theorem r180 : vC tS tR jM 1 r180c := isin_ok (0) (0) (99) (99)
/-- X12_around -/
def r181c : aCt := (260, [aR [314], aIt, aIt], [], [(some (aI (-1) (-1)), [(lLo, lHi), (iLo, iHi), (iLo, iHi)], []), (some (aI 0 255), [(lLo, lHi), (lLo, lHi), (lLo, lHi)], [])], [(314, 0, 1), (328, 0, 64)])
set_option maxRecDepth 100000 in
theorem r181 : vC tS tR jM 3 r181c := chk_ok (D := 2) (hst := jM_st (by decide +kernel)) (T := [r1c, r180c, r53c, r56c]) (N := [(43, [(0, aR [314]), (1, aI 0 7), (2, aI 0 99), (3, aI 0 255), (4, aI 0 8)], [(314, 0, 0, 0)], 0, [(4, 1, 8, true)])]) (sp := []) (fu := 31) (fa_cons (vUp r1 (by decide)) (fa_cons (vUp r180 (by decide)) (fa_cons (vUp r53 (by decide)) (fa_cons (vUp r56 (by decide)) (fa_nil))))) (by decide +kernel)
/-- X12_image -/
def r182c : aCt := (261, [aR [314]], [], [(some (aI (-1) (-1)), [(lLo, lHi)], []), (some (aIt), [(lLo, lHi)], [])], [(314, 0, 1), (314, 53, 54), (333, 0, 208)])
set_option maxRecDepth 100000 in
theorem r182 : vC tS tR jM 1 r182c := chkC_ok (D := 0) (hst := jM_st (by decide +kernel)) (T := []) (fu := 21) (pc := 16) (j := 1) (n := 208) (L := [(0, aR [314])]) (F := [(314, 0, 0, 0), (314, 26, 1, 12)]) (fa_nil) (by decide +kernel) (by decide +kernel) (by decide +kernel) (rng_of (by decide +kernel))
/-- X12_back -/
def r183c : aCt := (262, [aR [314]], [], [(some (aI (-1) (-1)), [(lLo, lHi)], []), (some (aIt), [(lLo, lHi)], [])], [(314, 0, 1), (314, 42, 43), (326, 0, 208)])
set_option maxRecDepth 100000 in
theorem r183 : vC tS tR jM 1 r183c := chkC_ok (D := 0) (hst := jM_st (by decide +kernel)) (T := []) (fu := 21) (pc := 16) (j := 1) (n := 208) (L := [(0, aR [314])]) (F := [(314, 0, 0, 0), (314, 53, 1, 1)]) (fa_nil) (by decide +kernel) (by decide +kernel) (by decide +kernel) (rng_of (by decide +kernel))
/-- X12_count -/
def r184c : aCt := (263, [aR [314], aIt], [], [(some (aIt), [(lLo, lHi), (0, 12)], []), (some (aI (-1000000) (-1000000)), [(lLo, lHi), (iLo, iHi)], [])], [(314, 0, 1)])
set_option maxRecDepth 100000 in
theorem r184 : vC tS tR jM 1 r184c := chk_ok (D := 0) (hst := jM_st (by decide +kernel)) (T := []) (N := []) (sp := []) (fu := 17) (fa_nil) (by decide +kernel)
