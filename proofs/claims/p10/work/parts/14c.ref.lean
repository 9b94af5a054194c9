/-! L2: contracts of the reference -/
/-- X12_isIn -/
def r54c : aCt := (155, [aLt, aL 0 0, aL 16 16], [], [(some (aI 1 1), [(0, 16), (lLo, lHi), (lLo, lHi)], []), (some (aI 0 0), [(lLo, lHi), (lLo, lHi), (lLo, lHi)], [])], [])
theorem r54 : vC tS tR jM 1 r54c := isin_ok (0) (0) (16) (16)
/-- X12_isIn -/
def r55c : aCt := (155, [aLt, aL 0 0, aL 17 17], [], [(some (aI 1 1), [(0, 17), (lLo, lHi), (lLo, lHi)], []), (some (aI 0 0), [(lLo, lHi), (lLo, lHi), (lLo, lHi)], [])], [])
theorem r55 : vC tS tR jM 1 r55c := isin_ok (0) (0) (17) (17)
/-- X12_isIn -/
def r56c : aCt := (155, [aLt, aL 0 0, aL 18 18], [], [(some (aI 1 1), [(0, 18), (lLo, lHi), (lLo, lHi)], []), (some (aI 0 0), [(lLo, lHi), (lLo, lHi), (lLo, lHi)], [])], [])
theorem r56 : vC tS tR jM 1 r56c := isin_ok (0) (0) (18) (18)
/-- X12_isIn -/
def r57c : aCt := (155, [aLt, aL 0 0, aL 19 19], [], [(some (aI 1 1), [(0, 19), (lLo, lHi), (lLo, lHi)], []), (some (aI 0 0), [(lLo, lHi), (lLo, lHi), (lLo, lHi)], [])], [])
theorem r57 : vC tS tR jM 1 r57c := isin_ok (0) (0) (19) (19)
/-- X12_isIn -/
def r58c : aCt := (155, [aLt, aL 0 0, aL 20 20], [], [(some (aI 1 1), [(0, 20), (lLo, lHi), (lLo, lHi)], []), (some (aI 0 0), [(lLo, lHi), (lLo, lHi), (lLo, lHi)], [])], [])
theorem r58 : vC tS tR jM 1 r58c := isin_ok (0) (0) (20) (20)
/-- X12_isIn -/
def r59c : aCt := (155, [aLt, aL 0 0, aL 21 21], [], [(some (aI 1 1), [(0, 21), (lLo, lHi), (lLo, lHi)], []), (some (aI 0 0), [(lLo, lHi), (lLo, lHi), (lLo, lHi)], [])], [])
theorem r59 : vC tS tR jM 1 r59c := isin_ok (0) (0) (21) (21)
/-- X12_isIn -/
def r60c : aCt := (155, [aLt, aL 0 0, aL 22 22], [], [(some (aI 1 1), [(0, 22), (lLo, lHi), (lLo, lHi)], []), (some (aI 0 0), [(lLo, lHi), (lLo, lHi), (lLo, lHi)], [])], [])
theorem r60 : vC tS tR jM 1 r60c := isin_ok (0) (0) (22) (22)
/-- X12_isIn -/
def r61c : aCt := (155, [aLt, aL 0 0, aL 23 23], [], [(some (aI 1 1), [(0, 23), (lLo, lHi), (lLo, lHi)], []), (some (aI 0 0), [(lLo, lHi), (lLo, lHi), (lLo, lHi)], [])], [])
theorem r61 : vC tS tR jM 1 r61c := isin_ok (0) (0) (23) (23)
/-- X12_isIn -/
def r62c : aCt := (155, [aLt, aL 0 0, aL 24 24], [], [(some (aI 1 1), [(0, 24), (lLo, lHi), (lLo, lHi)], []), (some (aI 0 0), [(lLo, lHi), (lLo, lHi), (lLo, lHi)], [])], [])
theorem r62 : vC tS tR jM 1 r62c := isin_ok (0) (0) (24) (24)
/-- X12_isIn -/
def r63c : aCt := (155, [aLt, aL 0 0, aL 25 25], [], [(some (aI 1 1), [(0, 25), (lLo, lHi), (lLo, lHi)], []), (some (aI 0 0), [(lLo, lHi), (lLo, lHi), (lLo, lHi)], [])], [])
theorem r63 : vC tS tR jM 1 r63c := isin_ok (0) (0) (25) (25)
/-- X12_isIn -/
def r64c : aCt := (155, [aLt, aL 0 0, aL 26 26], [], [(some (aI 1 1), [(0, 26), (lLo, lHi), (lLo, lHi)], []), (some (aI 0 0), [(lLo, lHi), (lLo, lHi), (lLo, lHi)], [])], [])
theorem r64 : vC tS tR jM 1 r64c := isin_ok (0) (0) (26) (26)
/-- X12_isIn -/
def r65c : aCt := (155, [aLt, aL 0 0, aL 27 27], [], [(some (aI 1 1), [(0, 27), (lLo, lHi), (lLo, lHi)], []), (some (aI 0 0), [(lLo, lHi), (lLo, lHi), (lLo, lHi)], [])], [])
theorem r65 : vC tS tR jM 1 r65c := isin_ok (0) (0) (27) (27)
/-- X12_isIn -/
def r66c : aCt := (155, [aLt, aL 0 0, aL 28 28], [], [(some (aI 1 1), [(0, 28), (lLo, lHi), (lLo, lHi)], []), (some (aI 0 0), [(lLo, lHi), (lLo, lHi), (lLo, lHi)], [])], [])
theorem r66 : vC tS tR jM 1 r66c := isin_ok (0) (0) (28) (28)
/-- X12_isIn -/
def r67c : aCt := (155, [aLt, aL 0 0, aL 29 29], [], [(some (aI 1 1), [(0, 29), (lLo, lHi), (lLo, lHi)], []), (some (aI 0 0), [(lLo, lHi), (lLo, lHi), (lLo, lHi)], [])], [])
theorem r67 : vC tS tR jM 1 r67c := isin_ok (0) (0) (29) (29)
/-- X12_isIn -/
def r68c : aCt := (155, [aLt, aL 0 0, aL 30 30], [], [(some (aI 1 1), [(0, 30), (lLo, lHi), (lLo, lHi)], []), (some (aI 0 0), [(lLo, lHi), (lLo, lHi), (lLo, lHi)], [])], [])
theorem r68 : vC tS tR jM 1 r68c := isin_ok (0) (0) (30) (30)
/-- X12_isIn -/
def r69c : aCt := (155, [aLt, aL 0 0, aL 31 31], [], [(some (aI 1 1), [(0, 31), (lLo, lHi), (lLo, lHi)], []), (some (aI 0 0), [(lLo, lHi), (lLo, lHi), (lLo, lHi)], [])], [])
theorem r69 : vC tS tR jM 1 r69c := isin_ok (0) (0) (31) (31)
/-- X12_isIn -/
def r70c : aCt := (155, [aLt, aL 0 0, aL 32 32], [], [(some (aI 1 1), [(0, 32), (lLo, lHi), (lLo, lHi)], []), (some (aI 0 0), [(lLo, lHi), (lLo, lHi), (lLo, lHi)], [])], [])
theorem r70 : vC tS tR jM 1 r70c := isin_ok (0) (0) (32) (32)
/-- X12_isIn -/
def r71c : aCt := (155, [aLt, aL 0 0, aL 33 33], [], [(some (aI 1 1), [(0, 33), (lLo, lHi), (lLo, lHi)], []), (some (aI 0 0), [(lLo, lHi), (lLo, lHi), (lLo, lHi)], [])], [])
theorem r71 : vC tS tR jM 1 r71c := isin_ok (0) (0) (33) (33)
/-- X12_isIn -/
def r72c : aCt := (155, [aLt, aL 0 0, aL 34 34], [], [(some (aI 1 1), [(0, 34), (lLo, lHi), (lLo, lHi)], []), (some (aI 0 0), [(lLo, lHi), (lLo, lHi), (lLo, lHi)], [])], [])
theorem r72 : vC tS tR jM 1 r72c := isin_ok (0) (0) (34) (34)
/-- X12_isIn -/
def r73c : aCt := (155, [aLt, aL 0 0, aL 35 35], [], [(some (aI 1 1), [(0, 35), (lLo, lHi), (lLo, lHi)], []), (some (aI 0 0), [(lLo, lHi), (lLo, lHi), (lLo, lHi)], [])], [])
theorem r73 : vC tS tR jM 1 r73c := isin_ok (0) (0) (35) (35)
/-- X12_isIn -/
def r74c : aCt := (155, [aLt, aL 0 0, aL 36 36], [], [(some (aI 1 1), [(0, 36), (lLo, lHi), (lLo, lHi)], []), (some (aI 0 0), [(lLo, lHi), (lLo, lHi), (lLo, lHi)], [])], [])
theorem r74 : vC tS tR jM 1 r74c := isin_ok (0) (0) (36) (36)
/-- X12_isIn -/
def r75c : aCt := (155, [aLt, aL 0 0, aL 37 37], [], [(some (aI 1 1), [(0, 37), (lLo, lHi), (lLo, lHi)], []), (some (aI 0 0), [(lLo, lHi), (lLo, lHi), (lLo, lHi)], [])], [])
theorem r75 : vC tS tR jM 1 r75c := isin_ok (0) (0) (37) (37)
/-- X12_isIn -/
def r76c : aCt := (155, [aLt, aL 0 0, aL 38 38], [], [(some (aI 1 1), [(0, 38), (lLo, lHi), (lLo, lHi)], []), (some (aI 0 0), [(lLo, lHi), (lLo, lHi), (lLo, lHi)], [])], [])
theorem r76 : vC tS tR jM 1 r76c := isin_ok (0) (0) (38) (38)
/-- X12_isIn -/
def r77c : aCt := (155, [aLt, aL 0 0, aL 39 39], [], [(some (aI 1 1), [(0, 39), (lLo, lHi), (lLo, lHi)], []), (some (aI 0 0), [(lLo, lHi), (lLo, lHi), (lLo, lHi)], [])], [])
theorem r77 : vC tS tR jM 1 r77c := isin_ok (0) (0) (39) (39)
/-- X12_isIn -/
def r78c : aCt := (155, [aLt, aL 0 0, aL 40 40], [], [(some (aI 1 1), [(0, 40), (lLo, lHi), (lLo, lHi)], []), (some (aI 0 0), [(lLo, lHi), (lLo, lHi), (lLo, lHi)], [])], [])
theorem r78 : vC tS tR jM 1 r78c := isin_ok (0) (0) (40) (40)
/-- X12_isIn -/
def r79c : aCt := (155, [aLt, aL 0 0, aL 41 41], [], [(some (aI 1 1), [(0, 41), (lLo, lHi), (lLo, lHi)], []), (some (aI 0 0), [(lLo, lHi), (lLo, lHi), (lLo, lHi)], [])], [])
theorem r79 : vC tS tR jM 1 r79c := isin_ok (0) (0) (41) (41)
/-- X12_isIn -/
def r80c : aCt := (155, [aLt, aL 0 0, aL 42 42], [], [(some (aI 1 1), [(0, 42), (lLo, lHi), (lLo, lHi)], []), (some (aI 0 0), [(lLo, lHi), (lLo, lHi), (lLo, lHi)], [])], [])
theorem r80 : vC tS tR jM 1 r80c := isin_ok (0) (0) (42) (42)
