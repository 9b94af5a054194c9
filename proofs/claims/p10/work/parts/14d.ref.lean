/-! L2: contracts of the reference -/
/-- X12_isIn -/
def r81c : aCt := (155, [aLt, aL 0 0, aL 43 43], [], [(some (aI 1 1), [(0, 43), (lLo, lHi), (lLo, lHi)], []), (some (aI 0 0), [(lLo, lHi), (lLo, lHi), (lLo, lHi)], [])], [])
theorem r81 : vC tS tR jM 1 r81c := isin_ok (0) (0) (43) (43)
/-- X12_isIn -/
def r82c : aCt := (155, [aLt, aL 0 0, aL 44 44], [], [(some (aI 1 1), [(0, 44), (lLo, lHi), (lLo, lHi)], []), (some (aI 0 0), [(lLo, lHi), (lLo, lHi), (lLo, lHi)], [])], [])
theorem r82 : vC tS tR jM 1 r82c := isin_ok (0) (0) (44) (44)
/-- X12_isIn -/
def r83c : aCt := (155, [aLt, aL 0 0, aL 45 45], [], [(some (aI 1 1), [(0, 45), (lLo, lHi), (lLo, lHi)], []), (some (aI 0 0), [(lLo, lHi), (lLo, lHi), (lLo, lHi)], [])], [])
theorem r83 : vC tS tR jM 1 r83c := isin_ok (0) (0) (45) (45)
/-- X12_isIn -/
def r84c : aCt := (155, [aLt, aL 0 0, aL 46 46], [], [(some (aI 1 1), [(0, 46), (lLo, lHi), (lLo, lHi)], []), (some (aI 0 0), [(lLo, lHi), (lLo, lHi), (lLo, lHi)], [])], [])
theorem r84 : vC tS tR jM 1 r84c := isin_ok (0) (0) (46) (46)
/-- X12_isIn -/
def r85c : aCt := (155, [aLt, aL 0 0, aL 47 47], [], [(some (aI 1 1), [(0, 47), (lLo, lHi), (lLo, lHi)], []), (some (aI 0 0), [(lLo, lHi), (lLo, lHi), (lLo, lHi)], [])], [])
theorem r85 : vC tS tR jM 1 r85c := isin_ok (0) (0) (47) (47)
/-- X12_isIn -/
def r86c : aCt := (155, [aLt, aL 0 0, aL 48 48], [], [(some (aI 1 1), [(0, 48), (lLo, lHi), (lLo, lHi)], []), (some (aI 0 0), [(lLo, lHi), (lLo, lHi), (lLo, lHi)], [])], [])
theorem r86 : vC tS tR jM 1 r86c := isin_ok (0) (0) (48) (48)
/-- X12_isIn -/
def r87c : aCt := (155, [aLt, aL 0 0, aL 49 49], [], [(some (aI 1 1), [(0, 49), (lLo, lHi), (lLo, lHi)], []), (some (aI 0 0), [(lLo, lHi), (lLo, lHi), (lLo, lHi)], [])], [])
theorem r87 : vC tS tR jM 1 r87c := isin_ok (0) (0) (49) (49)
/-- X12_isIn -/
def r88c : aCt := (155, [aLt, aL 0 0, aL 50 50], [], [(some (aI 1 1), [(0, 50), (lLo, lHi), (lLo, lHi)], []), (some (aI 0 0), [(lLo, lHi), (lLo, lHi), (lLo, lHi)], [])], [])
theorem r88 : vC tS tR jM 1 r88c := isin_ok (0) (0) (50) (50)
/-- X12_isIn -/
def r89c : aCt := (155, [aLt, aL 0 0, aL 51 51], [], [(some (aI 1 1), [(0, 51), (lLo, lHi), (lLo, lHi)], []), (some (aI 0 0), [(lLo, lHi), (lLo, lHi), (lLo, lHi)], [])], [])
theorem r89 : vC tS tR jM 1 r89c := isin_ok (0) (0) (51) (51)
/-- X12_isIn -/
def r90c : aCt := (155, [aLt, aL 0 0, aL 52 52], [], [(some (aI 1 1), [(0, 52), (lLo, lHi), (lLo, lHi)], []), (some (aI 0 0), [(lLo, lHi), (lLo, lHi), (lLo, lHi)], [])], [])
theorem r90 : vC tS tR jM 1 r90c := isin_ok (0) (0) (52) (52)
/-- X12_isIn -/
def r91c : aCt := (155, [aLt, aL 0 0, aL 53 53], [], [(some (aI 1 1), [(0, 53), (lLo, lHi), (lLo, lHi)], []), (some (aI 0 0), [(lLo, lHi), (lLo, lHi), (lLo, lHi)], [])], [])
theorem r91 : vC tS tR jM 1 r91c := isin_ok (0) (0) (53) (53)
/-- X12_isIn -/
def r92c : aCt := (155, [aLt, aL 0 0, aL 54 54], [], [(some (aI 1 1), [(0, 54), (lLo, lHi), (lLo, lHi)], []), (some (aI 0 0), [(lLo, lHi), (lLo, lHi), (lLo, lHi)], [])], [])
theorem r92 : vC tS tR jM 1 r92c := isin_ok (0) (0) (54) (54)
/-- X12_isIn -/
def r93c : aCt := (155, [aLt, aL 0 0, aL 55 55], [], [(some (aI 1 1), [(0, 55), (lLo, lHi), (lLo, lHi)], []), (some (aI 0 0), [(lLo, lHi), (lLo, lHi), (lLo, lHi)], [])], [])
theorem r93 : vC tS tR jM 1 r93c := isin_ok (0) (0) (55) (55)
/-- X12_isIn -/
def r94c : aCt := (155, [aLt, aL 0 0, aL 56 56], [], [(some (aI 1 1), [(0, 56), (lLo, lHi), (lLo, lHi)], []), (some (aI 0 0), [(lLo, lHi), (lLo, lHi), (lLo, lHi)], [])], [])
theorem r94 : vC tS tR jM 1 r94c := isin_ok (0) (0) (56) (56)
/-- X12_isIn -/
def r95c : aCt := (155, [aLt, aL 0 0, aL 57 57], [], [(some (aI 1 1), [(0, 57), (lLo, lHi), (lLo, lHi)], []), (some (aI 0 0), [(lLo, lHi), (lLo, lHi), (lLo, lHi)], [])], [])
theorem r95 : vC tS tR jM 1 r95c := isin_ok (0) (0) (57) (57)
/-- X12_isIn -/
def r96c : aCt := (155, [aLt, aL 0 0, aL 58 58], [], [(some (aI 1 1), [(0, 58), (lLo, lHi), (lLo, lHi)], []), (some (aI 0 0), [(lLo, lHi), (lLo, lHi), (lLo, lHi)], [])], [])
theorem r96 : vC tS tR jM 1 r96c := isin_ok (0) (0) (58) (58)
/-- X12_isIn -/
def r97c : aCt := (155, [aLt, aL 0 0, aL 59 59], [], [(some (aI 1 1), [(0, 59), (lLo, lHi), (lLo, lHi)], []), (some (aI 0 0), [(lLo, lHi), (lLo, lHi), (lLo, lHi)], [])], [])
theorem r97 : vC tS tR jM 1 r97c := isin_ok (0) (0) (59) (59)
/-- X12_log -/
def r98c : aCt := (221, [aR [314], aIt, aIt], [], [(some (aI (-1) (-1)), [(lLo, lHi), (iLo, iHi), (iLo, iHi)], []), (some (aIt), [(lLo, lHi), (0, 59), (0, 2)], [])], [(314, 0, 1)])
set_option maxRecDepth 100000 in
theorem r98 : vC tS tR jM 2 r98c := chkV_ok (D := 1) (hst := jM_st (by decide +kernel)) (T := [r41c, r2c, r42c, r21c, r18c, r43c, r44c, r45c, r46c, r47c, r25c, r48c, r49c, r50c, r51c, r52c, r53c, r54c, r55c, r56c, r57c, r58c, r59c, r60c, r61c, r62c, r63c, r64c, r65c, r66c, r67c, r68c, r69c, r70c, r71c, r72c, r73c, r74c, r75c, r76c, r77c, r78c, r79c, r80c, r81c, r82c, r83c, r84c, r85c, r86c, r87c, r88c, r89c, r90c, r91c, r92c, r93c, r94c, r95c, r96c, r97c]) (N := []) (sp := []) (fu := 47) (a := 326) (i := 27) (lo := 0) (n := 61) (fa_cons (vUp r41 (by decide)) (fa_cons (vUp r2 (by decide)) (fa_cons (vUp r42 (by decide)) (fa_cons (vUp r21 (by decide)) (fa_cons (vUp r18 (by decide)) (fa_cons (vUp r43 (by decide)) (fa_cons (vUp r44 (by decide)) (fa_cons (vUp r45 (by decide)) (fa_cons (vUp r46 (by decide)) (fa_cons (vUp r47 (by decide)) (fa_cons (vUp r25 (by decide)) (fa_cons (vUp r48 (by decide)) (fa_cons (vUp r49 (by decide)) (fa_cons (vUp r50 (by decide)) (fa_cons (vUp r51 (by decide)) (fa_cons (vUp r52 (by decide)) (fa_cons (vUp r53 (by decide)) (fa_cons (vUp r54 (by decide)) (fa_cons (vUp r55 (by decide)) (fa_cons (vUp r56 (by decide)) (fa_cons (vUp r57 (by decide)) (fa_cons (vUp r58 (by decide)) (fa_cons (vUp r59 (by decide)) (fa_cons (vUp r60 (by decide)) (fa_cons (vUp r61 (by decide)) (fa_cons (vUp r62 (by decide)) (fa_cons (vUp r63 (by decide)) (fa_cons (vUp r64 (by decide)) (fa_cons (vUp r65 (by decide)) (fa_cons (vUp r66 (by decide)) (fa_cons (vUp r67 (by decide)) (fa_cons (vUp r68 (by decide)) (fa_cons (vUp r69 (by decide)) (fa_cons (vUp r70 (by decide)) (fa_cons (vUp r71 (by decide)) (fa_cons (vUp r72 (by decide)) (fa_cons (vUp r73 (by decide)) (fa_cons (vUp r74 (by decide)) (fa_cons (vUp r75 (by decide)) (fa_cons (vUp r76 (by decide)) (fa_cons (vUp r77 (by decide)) (fa_cons (vUp r78 (by decide)) (fa_cons (vUp r79 (by decide)) (fa_cons (vUp r80 (by decide)) (fa_cons (vUp r81 (by decide)) (fa_cons (vUp r82 (by decide)) (fa_cons (vUp r83 (by decide)) (fa_cons (vUp r84 (by decide)) (fa_cons (vUp r85 (by decide)) (fa_cons (vUp r86 (by decide)) (fa_cons (vUp r87 (by decide)) (fa_cons (vUp r88 (by decide)) (fa_cons (vUp r89 (by decide)) (fa_cons (vUp r90 (by decide)) (fa_cons (vUp r91 (by decide)) (fa_cons (vUp r92 (by decide)) (fa_cons (vUp r93 (by decide)) (fa_cons (vUp r94 (by decide)) (fa_cons (vUp r95 (by decide)) (fa_cons (vUp r96 (by decide)) (fa_cons (vUp r97 (by decide)) (fa_nil)))))))))))))))))))))))))))))))))))))))))))))))))))))))))))))) (by decide +kernel)
/-- X12_isWalk -/
def r99c : aCt := (222, [aR [314], aIt], [], [(some (aI 0 0), [(lLo, lHi), (iLo, iHi)], []), (some (aI 1 1), [(lLo, lHi), (0, 3)], [])], [])
set_option maxRecDepth 100000 in
theorem r99 : vC tS tR jM 1 r99c := chk_ok (D := 0) (hst := jM_st (by decide +kernel)) (T := []) (N := []) (sp := []) (fu := 16) (fa_nil) (by decide +kernel)
/-- X12_isIn -/
def r100c : aCt := (155, [aLt, aL (-1) (-1), aL (-1) 15], [], [(some (aI 1 1), [((-1), 15), (lLo, lHi), (lLo, lHi)], []), (some (aI 0 0), [(lLo, lHi), (lLo, lHi), (lLo, lHi)], [])], [])
theorem r100 : vC tS tR jM 1 r100c := isin_ok (-1) (-1) (-1) (15)
/-- X12_walk -/
def r101c : aCt := (223, [aR [314], aIt, aIt], [], [(some (aI (-1) (-1)), [(lLo, lHi), (iLo, iHi), (iLo, iHi)], []), (some (aIt), [(lLo, lHi), (0, 3), ((-1), 15)], [])], [(314, 0, 1)])
set_option maxRecDepth 100000 in
theorem r101 : vC tS tR jM 2 r101c := chk_ok (D := 1) (hst := jM_st (by decide +kernel)) (T := [r99c, r100c]) (N := []) (sp := []) (fu := 38) (fa_cons (vUp r99 (by decide)) (fa_cons (vUp r100 (by decide)) (fa_nil))) (by decide +kernel)
/-- X12_between -/
def r102c : aCt := (224, [aR [314], aIt, aIt], [], [(some (aIt), [(lLo, lHi), (lLo, lHi), (lLo, lHi)], [])], [])
set_option maxRecDepth 100000 in
theorem r102 : vC tS tR jM 2 r102c := chk_ok (D := 1) (hst := jM_st (by decide +kernel)) (T := [r14c]) (N := [(5, [(0, aR [314]), (1, aIt), (2, aIt), (3, aIt), (4, aI 0 12)], [], 0, [(4, 1, 12, true)])]) (sp := []) (fu := 84) (fa_cons (vUp r14 (by decide)) (fa_nil)) (by decide +kernel)
/-- X12_check -/
def r103c : aCt := (225, [aR [314], aIt, aIt], [], [(some (aI (-1000000) (-1000000)), [(lLo, lHi), (iLo, iHi), (iLo, iHi)], []), (some (aI 0 0), [(lLo, lHi), (0, 3), (0, 2)], []), (some (aIt), [(lLo, lHi), (lLo, lHi), (lLo, lHi)], []), (some (aI (-1) (-1)), [(lLo, lHi), (lLo, lHi), (lLo, lHi)], [])], [(314, 0, 1)])
set_option maxRecDepth 100000 in
theorem r103 : vC tS tR jM 4 r103c := chk_ok (D := 3) (hst := jM_st (by decide +kernel)) (T := [r99c, r2c, r1c, r27c, r102c]) (N := [(75, [(0, aR [314]), (1, aI 0 3), (2, aI 0 2), (3, aI 0 48), (4, aI 1 16), (5, aIt), (6, aIt), (7, aI 1 1)], [(314, 0, 0, 0), (314, 26, 1, 12)], 1, [(4, 1, 16, true)]),
  (75, [(0, aR [314]), (1, aI 0 3), (2, aI 0 2), (3, aI 0 48), (4, aI 1 15), (5, aIt), (6, aIt), (7, aI 0 0), (8, aIt), (9, aI (-1) (-1))], [(314, 0, 0, 0), (314, 26, 1, 12)], 0, [])]) (sp := [(75, 7)]) (fu := 60) (fa_cons (vUp r99 (by decide)) (fa_cons (vUp r2 (by decide)) (fa_cons (vUp r1 (by decide)) (fa_cons (vUp r27 (by decide)) (fa_cons (vUp r102 (by decide)) (fa_nil)))))) (by decide +kernel)
/-- X12_copy -/
def r104c : aCt := (192, [aR [326], aR [327]], [], [(none, [(lLo, lHi), (lLo, lHi)], [])], [(327, 0, 28)])
set_option maxRecDepth 100000 in
theorem r104 : vC tS tR jM 1 r104c := chk_ok (D := 0) (hst := jM_st (by decide +kernel)) (T := []) (N := [(2, [(0, aR [326]), (1, aR [327]), (2, aI 0 0)], [], 27, []),
  (2, [(0, aR [326]), (1, aR [327]), (2, aI 1 1)], [], 26, []),
  (2, [(0, aR [326]), (1, aR [327]), (2, aI 2 2)], [], 25, []),
  (2, [(0, aR [326]), (1, aR [327]), (2, aI 3 3)], [], 24, []),
  (2, [(0, aR [326]), (1, aR [327]), (2, aI 4 4)], [], 23, []),
  (2, [(0, aR [326]), (1, aR [327]), (2, aI 5 5)], [], 22, []),
  (2, [(0, aR [326]), (1, aR [327]), (2, aI 6 6)], [], 21, []),
  (2, [(0, aR [326]), (1, aR [327]), (2, aI 7 7)], [], 20, []),
  (2, [(0, aR [326]), (1, aR [327]), (2, aI 8 8)], [], 19, []),
  (2, [(0, aR [326]), (1, aR [327]), (2, aI 9 9)], [], 18, []),
  (2, [(0, aR [326]), (1, aR [327]), (2, aI 10 10)], [], 17, []),
  (2, [(0, aR [326]), (1, aR [327]), (2, aI 11 11)], [], 16, []),
  (2, [(0, aR [326]), (1, aR [327]), (2, aI 12 12)], [], 15, []),
  (2, [(0, aR [326]), (1, aR [327]), (2, aI 13 13)], [], 14, []),
  (2, [(0, aR [326]), (1, aR [327]), (2, aI 14 14)], [], 13, []),
  (2, [(0, aR [326]), (1, aR [327]), (2, aI 15 15)], [], 12, []),
  (2, [(0, aR [326]), (1, aR [327]), (2, aI 16 16)], [], 11, []),
  (2, [(0, aR [326]), (1, aR [327]), (2, aI 17 17)], [], 10, []),
  (2, [(0, aR [326]), (1, aR [327]), (2, aI 18 18)], [], 9, []),
  (2, [(0, aR [326]), (1, aR [327]), (2, aI 19 19)], [], 8, []),
  (2, [(0, aR [326]), (1, aR [327]), (2, aI 20 20)], [], 7, []),
  (2, [(0, aR [326]), (1, aR [327]), (2, aI 21 21)], [], 6, []),
  (2, [(0, aR [326]), (1, aR [327]), (2, aI 22 22)], [], 5, []),
  (2, [(0, aR [326]), (1, aR [327]), (2, aI 23 23)], [], 4, []),
  (2, [(0, aR [326]), (1, aR [327]), (2, aI 24 24)], [], 3, []),
  (2, [(0, aR [326]), (1, aR [327]), (2, aI 25 25)], [], 2, []),
  (2, [(0, aR [326]), (1, aR [327]), (2, aI 26 26)], [], 1, []),
  (2, [(0, aR [326]), (1, aR [327]), (2, aI 27 27)], [], 0, [])]) (sp := [(2, 2)]) (fu := 19) (fa_nil) (by decide +kernel)
/-- X12_isIn -/
def r105c : aCt := (155, [aLt, aL 1 1, aL 999 999], [], [(some (aI 1 1), [(1, 999), (lLo, lHi), (lLo, lHi)], []), (some (aI 0 0), [(lLo, lHi), (lLo, lHi), (lLo, lHi)], [])], [])
theorem r105 : vC tS tR jM 1 r105c := isin_ok (1) (1) (999) (999)
/-- X12_seen -/
def r106c : aCt := (233, [aR [314], aIt, aIt], [], [(some (aI 1 10), [(lLo, lHi), (0, 7), (iLo, iHi)], []), (some (aI (-1) (-1)), [(lLo, lHi), (iLo, iHi), (iLo, iHi)], [])], [(314, 0, 1), (314, 51, 52), (332, 0, 20)])
set_option maxRecDepth 100000 in
theorem r106 : vC tS tR jM 2 r106c := chk_ok (D := 1) (hst := jM_st (by decide +kernel)) (T := [r1c]) (N := []) (sp := []) (fu := 48) (fa_cons (vUp r1 (by decide)) (fa_nil)) (by decide +kernel)
/-- X12_has -/
def r107c : aCt := (156, [aIt, aI iLo 11], [], [(some (aI 0 0), [(iLo, iHi), (iLo, 11)], []), (some (aI 1 1), [(iLo, iHi), (iLo, 11)], [])], [])
set_option maxRecDepth 100000 in
theorem r107 : vC tS tR jM 1 r107c := chk_ok (D := 0) (hst := jM_st (by decide +kernel)) (T := []) (N := []) (sp := []) (fu := 17) (fa_nil) (by decide +kernel)
