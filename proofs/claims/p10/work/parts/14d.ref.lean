/-! L2: contracts of the reference -/
/-- X12_isIn -/
def r81c : aCt := (155, [aLt, aL 0 0, aL 11 11], [], [(some (aI 1 1), [(0, 11), (lLo, lHi), (lLo, lHi)], []), (some (aI 0 0), [(lLo, lHi), (lLo, lHi), (lLo, lHi)], [])], [])
theorem r81 : vC tS tR jM 1 r81c := isin_ok (0) (0) (11) (11)
/-- X12_isIn -/
def r82c : aCt := (155, [aLt, aL 0 0, aL 12 12], [], [(some (aI 1 1), [(0, 12), (lLo, lHi), (lLo, lHi)], []), (some (aI 0 0), [(lLo, lHi), (lLo, lHi), (lLo, lHi)], [])], [])
theorem r82 : vC tS tR jM 1 r82c := isin_ok (0) (0) (12) (12)
/-- X12_isIn -/
def r83c : aCt := (155, [aLt, aL 0 0, aL 13 13], [], [(some (aI 1 1), [(0, 13), (lLo, lHi), (lLo, lHi)], []), (some (aI 0 0), [(lLo, lHi), (lLo, lHi), (lLo, lHi)], [])], [])
theorem r83 : vC tS tR jM 1 r83c := isin_ok (0) (0) (13) (13)
/-- X12_isIn -/
def r84c : aCt := (155, [aLt, aL 0 0, aL 14 14], [], [(some (aI 1 1), [(0, 14), (lLo, lHi), (lLo, lHi)], []), (some (aI 0 0), [(lLo, lHi), (lLo, lHi), (lLo, lHi)], [])], [])
theorem r84 : vC tS tR jM 1 r84c := isin_ok (0) (0) (14) (14)
/-- X12_isIn -/
def r85c : aCt := (155, [aLt, aL 0 0, aL 15 15], [], [(some (aI 1 1), [(0, 15), (lLo, lHi), (lLo, lHi)], []), (some (aI 0 0), [(lLo, lHi), (lLo, lHi), (lLo, lHi)], [])], [])
theorem r85 : vC tS tR jM 1 r85c := isin_ok (0) (0) (15) (15)
/-- X12_isIn -/
def r86c : aCt := (155, [aLt, aL 0 0, aL 16 16], [], [(some (aI 1 1), [(0, 16), (lLo, lHi), (lLo, lHi)], []), (some (aI 0 0), [(lLo, lHi), (lLo, lHi), (lLo, lHi)], [])], [])
theorem r86 : vC tS tR jM 1 r86c := isin_ok (0) (0) (16) (16)
/-- X12_isIn -/
def r87c : aCt := (155, [aLt, aL 0 0, aL 17 17], [], [(some (aI 1 1), [(0, 17), (lLo, lHi), (lLo, lHi)], []), (some (aI 0 0), [(lLo, lHi), (lLo, lHi), (lLo, lHi)], [])], [])
theorem r87 : vC tS tR jM 1 r87c := isin_ok (0) (0) (17) (17)
/-- X12_isIn -/
def r88c : aCt := (155, [aLt, aL 0 0, aL 18 18], [], [(some (aI 1 1), [(0, 18), (lLo, lHi), (lLo, lHi)], []), (some (aI 0 0), [(lLo, lHi), (lLo, lHi), (lLo, lHi)], [])], [])
theorem r88 : vC tS tR jM 1 r88c := isin_ok (0) (0) (18) (18)
/-- X12_isIn -/
def r89c : aCt := (155, [aLt, aL 0 0, aL 19 19], [], [(some (aI 1 1), [(0, 19), (lLo, lHi), (lLo, lHi)], []), (some (aI 0 0), [(lLo, lHi), (lLo, lHi), (lLo, lHi)], [])], [])
theorem r89 : vC tS tR jM 1 r89c := isin_ok (0) (0) (19) (19)
/-- X12_isIn -/
def r90c : aCt := (155, [aLt, aL 0 0, aL 20 20], [], [(some (aI 1 1), [(0, 20), (lLo, lHi), (lLo, lHi)], []), (some (aI 0 0), [(lLo, lHi), (lLo, lHi), (lLo, lHi)], [])], [])
theorem r90 : vC tS tR jM 1 r90c := isin_ok (0) (0) (20) (20)
/-- X12_isIn -/
def r91c : aCt := (155, [aLt, aL 0 0, aL 21 21], [], [(some (aI 1 1), [(0, 21), (lLo, lHi), (lLo, lHi)], []), (some (aI 0 0), [(lLo, lHi), (lLo, lHi), (lLo, lHi)], [])], [])
theorem r91 : vC tS tR jM 1 r91c := isin_ok (0) (0) (21) (21)
/-- X12_isIn -/
def r92c : aCt := (155, [aLt, aL 0 0, aL 22 22], [], [(some (aI 1 1), [(0, 22), (lLo, lHi), (lLo, lHi)], []), (some (aI 0 0), [(lLo, lHi), (lLo, lHi), (lLo, lHi)], [])], [])
theorem r92 : vC tS tR jM 1 r92c := isin_ok (0) (0) (22) (22)
/-- X12_isIn -/
def r93c : aCt := (155, [aLt, aL 0 0, aL 23 23], [], [(some (aI 1 1), [(0, 23), (lLo, lHi), (lLo, lHi)], []), (some (aI 0 0), [(lLo, lHi), (lLo, lHi), (lLo, lHi)], [])], [])
theorem r93 : vC tS tR jM 1 r93c := isin_ok (0) (0) (23) (23)
/-- X12_isIn -/
def r94c : aCt := (155, [aLt, aL 0 0, aL 24 24], [], [(some (aI 1 1), [(0, 24), (lLo, lHi), (lLo, lHi)], []), (some (aI 0 0), [(lLo, lHi), (lLo, lHi), (lLo, lHi)], [])], [])
theorem r94 : vC tS tR jM 1 r94c := isin_ok (0) (0) (24) (24)
/-- X12_isIn -/
def r95c : aCt := (155, [aLt, aL 0 0, aL 25 25], [], [(some (aI 1 1), [(0, 25), (lLo, lHi), (lLo, lHi)], []), (some (aI 0 0), [(lLo, lHi), (lLo, lHi), (lLo, lHi)], [])], [])
theorem r95 : vC tS tR jM 1 r95c := isin_ok (0) (0) (25) (25)
/-- X12_isIn -/
def r96c : aCt := (155, [aLt, aL 0 0, aL 26 26], [], [(some (aI 1 1), [(0, 26), (lLo, lHi), (lLo, lHi)], []), (some (aI 0 0), [(lLo, lHi), (lLo, lHi), (lLo, lHi)], [])], [])
theorem r96 : vC tS tR jM 1 r96c := isin_ok (0) (0) (26) (26)
/-- X12_isIn -/
def r97c : aCt := (155, [aLt, aL 0 0, aL 27 27], [], [(some (aI 1 1), [(0, 27), (lLo, lHi), (lLo, lHi)], []), (some (aI 0 0), [(lLo, lHi), (lLo, lHi), (lLo, lHi)], [])], [])
theorem r97 : vC tS tR jM 1 r97c := isin_ok (0) (0) (27) (27)
/-- X12_isIn -/
def r98c : aCt := (155, [aLt, aL 0 0, aL 28 28], [], [(some (aI 1 1), [(0, 28), (lLo, lHi), (lLo, lHi)], []), (some (aI 0 0), [(lLo, lHi), (lLo, lHi), (lLo, lHi)], [])], [])
theorem r98 : vC tS tR jM 1 r98c := isin_ok (0) (0) (28) (28)
/-- X12_isIn -/
def r99c : aCt := (155, [aLt, aL 0 0, aL 29 29], [], [(some (aI 1 1), [(0, 29), (lLo, lHi), (lLo, lHi)], []), (some (aI 0 0), [(lLo, lHi), (lLo, lHi), (lLo, lHi)], [])], [])
theorem r99 : vC tS tR jM 1 r99c := isin_ok (0) (0) (29) (29)
/-- X12_isIn -/
def r100c : aCt := (155, [aLt, aL 0 0, aL 30 30], [], [(some (aI 1 1), [(0, 30), (lLo, lHi), (lLo, lHi)], []), (some (aI 0 0), [(lLo, lHi), (lLo, lHi), (lLo, lHi)], [])], [])
theorem r100 : vC tS tR jM 1 r100c := isin_ok (0) (0) (30) (30)
/-- X12_isIn -/
def r101c : aCt := (155, [aLt, aL 0 0, aL 31 31], [], [(some (aI 1 1), [(0, 31), (lLo, lHi), (lLo, lHi)], []), (some (aI 0 0), [(lLo, lHi), (lLo, lHi), (lLo, lHi)], [])], [])
theorem r101 : vC tS tR jM 1 r101c := isin_ok (0) (0) (31) (31)
/-- X12_isIn -/
def r102c : aCt := (155, [aLt, aL 0 0, aL 32 32], [], [(some (aI 1 1), [(0, 32), (lLo, lHi), (lLo, lHi)], []), (some (aI 0 0), [(lLo, lHi), (lLo, lHi), (lLo, lHi)], [])], [])
theorem r102 : vC tS tR jM 1 r102c := isin_ok (0) (0) (32) (32)
/-- X12_isIn -/
def r103c : aCt := (155, [aLt, aL 0 0, aL 33 33], [], [(some (aI 1 1), [(0, 33), (lLo, lHi), (lLo, lHi)], []), (some (aI 0 0), [(lLo, lHi), (lLo, lHi), (lLo, lHi)], [])], [])
theorem r103 : vC tS tR jM 1 r103c := isin_ok (0) (0) (33) (33)
/-- X12_isIn -/
def r104c : aCt := (155, [aLt, aL 0 0, aL 34 34], [], [(some (aI 1 1), [(0, 34), (lLo, lHi), (lLo, lHi)], []), (some (aI 0 0), [(lLo, lHi), (lLo, lHi), (lLo, lHi)], [])], [])
theorem r104 : vC tS tR jM 1 r104c := isin_ok (0) (0) (34) (34)
/-- X12_isIn -/
def r105c : aCt := (155, [aLt, aL 0 0, aL 35 35], [], [(some (aI 1 1), [(0, 35), (lLo, lHi), (lLo, lHi)], []), (some (aI 0 0), [(lLo, lHi), (lLo, lHi), (lLo, lHi)], [])], [])
theorem r105 : vC tS tR jM 1 r105c := isin_ok (0) (0) (35) (35)
/-- X12_isIn -/
def r106c : aCt := (155, [aLt, aL 0 0, aL 36 36], [], [(some (aI 1 1), [(0, 36), (lLo, lHi), (lLo, lHi)], []), (some (aI 0 0), [(lLo, lHi), (lLo, lHi), (lLo, lHi)], [])], [])
theorem r106 : vC tS tR jM 1 r106c := isin_ok (0) (0) (36) (36)
/-- X12_isIn -/
def r107c : aCt := (155, [aLt, aL 0 0, aL 37 37], [], [(some (aI 1 1), [(0, 37), (lLo, lHi), (lLo, lHi)], []), (some (aI 0 0), [(lLo, lHi), (lLo, lHi), (lLo, lHi)], [])], [])
theorem r107 : vC tS tR jM 1 r107c := isin_ok (0) (0) (37) (37)
