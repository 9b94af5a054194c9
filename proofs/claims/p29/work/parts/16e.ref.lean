/-! L2: contracts of the reference -/
/-- X12_isIn -/
def r108c : aCt := (155, [aLt, aL 0 0, aL 26 26], [], [(some (aI 1 1), [(0, 26), (lLo, lHi), (lLo, lHi)], []), (some (aI 0 0), [(lLo, lHi), (lLo, lHi), (lLo, lHi)], [])], [])
theorem r108 : vC tS tR jM 1 r108c := isin_ok (0) (0) (26) (26)
/-- X12_isIn -/
def r109c : aCt := (155, [aLt, aL 0 0, aL 27 27], [], [(some (aI 1 1), [(0, 27), (lLo, lHi), (lLo, lHi)], []), (some (aI 0 0), [(lLo, lHi), (lLo, lHi), (lLo, lHi)], [])], [])
theorem r109 : vC tS tR jM 1 r109c := isin_ok (0) (0) (27) (27)
/-- X12_isIn -/
def r110c : aCt := (155, [aLt, aL 0 0, aL 28 28], [], [(some (aI 1 1), [(0, 28), (lLo, lHi), (lLo, lHi)], []), (some (aI 0 0), [(lLo, lHi), (lLo, lHi), (lLo, lHi)], [])], [])
theorem r110 : vC tS tR jM 1 r110c := isin_ok (0) (0) (28) (28)
/-- X12_isIn -/
def r111c : aCt := (155, [aLt, aL 0 0, aL 29 29], [], [(some (aI 1 1), [(0, 29), (lLo, lHi), (lLo, lHi)], []), (some (aI 0 0), [(lLo, lHi), (lLo, lHi), (lLo, lHi)], [])], [])
theorem r111 : vC tS tR jM 1 r111c := isin_ok (0) (0) (29) (29)
/-- X12_isIn -/
def r112c : aCt := (155, [aLt, aL 0 0, aL 30 30], [], [(some (aI 1 1), [(0, 30), (lLo, lHi), (lLo, lHi)], []), (some (aI 0 0), [(lLo, lHi), (lLo, lHi), (lLo, lHi)], [])], [])
theorem r112 : vC tS tR jM 1 r112c := isin_ok (0) (0) (30) (30)
/-- X12_isIn -/
def r113c : aCt := (155, [aLt, aL 0 0, aL 31 31], [], [(some (aI 1 1), [(0, 31), (lLo, lHi), (lLo, lHi)], []), (some (aI 0 0), [(lLo, lHi), (lLo, lHi), (lLo, lHi)], [])], [])
theorem r113 : vC tS tR jM 1 r113c := isin_ok (0) (0) (31) (31)
/-- X12_isIn -/
def r114c : aCt := (155, [aLt, aL 0 0, aL 32 32], [], [(some (aI 1 1), [(0, 32), (lLo, lHi), (lLo, lHi)], []), (some (aI 0 0), [(lLo, lHi), (lLo, lHi), (lLo, lHi)], [])], [])
theorem r114 : vC tS tR jM 1 r114c := isin_ok (0) (0) (32) (32)
/-- X12_isIn -/
def r115c : aCt := (155, [aLt, aL 0 0, aL 33 33], [], [(some (aI 1 1), [(0, 33), (lLo, lHi), (lLo, lHi)], []), (some (aI 0 0), [(lLo, lHi), (lLo, lHi), (lLo, lHi)], [])], [])
theorem r115 : vC tS tR jM 1 r115c := isin_ok (0) (0) (33) (33)
/-- X12_isIn -/
def r116c : aCt := (155, [aLt, aL 0 0, aL 34 34], [], [(some (aI 1 1), [(0, 34), (lLo, lHi), (lLo, lHi)], []), (some (aI 0 0), [(lLo, lHi), (lLo, lHi), (lLo, lHi)], [])], [])
theorem r116 : vC tS tR jM 1 r116c := isin_ok (0) (0) (34) (34)
/-- X12_isIn -/
def r117c : aCt := (155, [aLt, aL 0 0, aL 35 35], [], [(some (aI 1 1), [(0, 35), (lLo, lHi), (lLo, lHi)], []), (some (aI 0 0), [(lLo, lHi), (lLo, lHi), (lLo, lHi)], [])], [])
theorem r117 : vC tS tR jM 1 r117c := isin_ok (0) (0) (35) (35)
/-- X12_isIn -/
def r118c : aCt := (155, [aLt, aL 0 0, aL 36 36], [], [(some (aI 1 1), [(0, 36), (lLo, lHi), (lLo, lHi)], []), (some (aI 0 0), [(lLo, lHi), (lLo, lHi), (lLo, lHi)], [])], [])
theorem r118 : vC tS tR jM 1 r118c := isin_ok (0) (0) (36) (36)
/-- X12_isIn -/
def r119c : aCt := (155, [aLt, aL 0 0, aL 37 37], [], [(some (aI 1 1), [(0, 37), (lLo, lHi), (lLo, lHi)], []), (some (aI 0 0), [(lLo, lHi), (lLo, lHi), (lLo, lHi)], [])], [])
theorem r119 : vC tS tR jM 1 r119c := isin_ok (0) (0) (37) (37)
/-- X12_isIn -/
def r120c : aCt := (155, [aLt, aL 0 0, aL 38 38], [], [(some (aI 1 1), [(0, 38), (lLo, lHi), (lLo, lHi)], []), (some (aI 0 0), [(lLo, lHi), (lLo, lHi), (lLo, lHi)], [])], [])
theorem r120 : vC tS tR jM 1 r120c := isin_ok (0) (0) (38) (38)
/-- X12_isIn -/
def r121c : aCt := (155, [aLt, aL 0 0, aL 39 39], [], [(some (aI 1 1), [(0, 39), (lLo, lHi), (lLo, lHi)], []), (some (aI 0 0), [(lLo, lHi), (lLo, lHi), (lLo, lHi)], [])], [])
theorem r121 : vC tS tR jM 1 r121c := isin_ok (0) (0) (39) (39)
/-- X12_isIn -/
def r122c : aCt := (155, [aLt, aL 0 0, aL 40 40], [], [(some (aI 1 1), [(0, 40), (lLo, lHi), (lLo, lHi)], []), (some (aI 0 0), [(lLo, lHi), (lLo, lHi), (lLo, lHi)], [])], [])
theorem r122 : vC tS tR jM 1 r122c := isin_ok (0) (0) (40) (40)
/-- X12_isIn -/
def r123c : aCt := (155, [aLt, aL 0 0, aL 41 41], [], [(some (aI 1 1), [(0, 41), (lLo, lHi), (lLo, lHi)], []), (some (aI 0 0), [(lLo, lHi), (lLo, lHi), (lLo, lHi)], [])], [])
theorem r123 : vC tS tR jM 1 r123c := isin_ok (0) (0) (41) (41)
/-- X12_isIn -/
def r124c : aCt := (155, [aLt, aL 0 0, aL 42 42], [], [(some (aI 1 1), [(0, 42), (lLo, lHi), (lLo, lHi)], []), (some (aI 0 0), [(lLo, lHi), (lLo, lHi), (lLo, lHi)], [])], [])
theorem r124 : vC tS tR jM 1 r124c := isin_ok (0) (0) (42) (42)
/-- X12_isIn -/
def r125c : aCt := (155, [aLt, aL 0 0, aL 43 43], [], [(some (aI 1 1), [(0, 43), (lLo, lHi), (lLo, lHi)], []), (some (aI 0 0), [(lLo, lHi), (lLo, lHi), (lLo, lHi)], [])], [])
theorem r125 : vC tS tR jM 1 r125c := isin_ok (0) (0) (43) (43)
/-- X12_isIn -/
def r126c : aCt := (155, [aLt, aL 0 0, aL 44 44], [], [(some (aI 1 1), [(0, 44), (lLo, lHi), (lLo, lHi)], []), (some (aI 0 0), [(lLo, lHi), (lLo, lHi), (lLo, lHi)], [])], [])
theorem r126 : vC tS tR jM 1 r126c := isin_ok (0) (0) (44) (44)
/-- X12_isIn -/
def r127c : aCt := (155, [aLt, aL 0 0, aL 45 45], [], [(some (aI 1 1), [(0, 45), (lLo, lHi), (lLo, lHi)], []), (some (aI 0 0), [(lLo, lHi), (lLo, lHi), (lLo, lHi)], [])], [])
theorem r127 : vC tS tR jM 1 r127c := isin_ok (0) (0) (45) (45)
/-- X12_isIn -/
def r128c : aCt := (155, [aLt, aL 0 0, aL 46 46], [], [(some (aI 1 1), [(0, 46), (lLo, lHi), (lLo, lHi)], []), (some (aI 0 0), [(lLo, lHi), (lLo, lHi), (lLo, lHi)], [])], [])
theorem r128 : vC tS tR jM 1 r128c := isin_ok (0) (0) (46) (46)
/-- X12_isIn -/
def r129c : aCt := (155, [aLt, aL 0 0, aL 47 47], [], [(some (aI 1 1), [(0, 47), (lLo, lHi), (lLo, lHi)], []), (some (aI 0 0), [(lLo, lHi), (lLo, lHi), (lLo, lHi)], [])], [])
theorem r129 : vC tS tR jM 1 r129c := isin_ok (0) (0) (47) (47)
/-- X12_isIn -/
def r130c : aCt := (155, [aLt, aL 0 0, aL 48 48], [], [(some (aI 1 1), [(0, 48), (lLo, lHi), (lLo, lHi)], []), (some (aI 0 0), [(lLo, lHi), (lLo, lHi), (lLo, lHi)], [])], [])
theorem r130 : vC tS tR jM 1 r130c := isin_ok (0) (0) (48) (48)
/-- X12_isIn -/
def r131c : aCt := (155, [aLt, aL 0 0, aL 49 49], [], [(some (aI 1 1), [(0, 49), (lLo, lHi), (lLo, lHi)], []), (some (aI 0 0), [(lLo, lHi), (lLo, lHi), (lLo, lHi)], [])], [])
theorem r131 : vC tS tR jM 1 r131c := isin_ok (0) (0) (49) (49)
/-- X12_isIn -/
def r132c : aCt := (155, [aLt, aL 0 0, aL 50 50], [], [(some (aI 1 1), [(0, 50), (lLo, lHi), (lLo, lHi)], []), (some (aI 0 0), [(lLo, lHi), (lLo, lHi), (lLo, lHi)], [])], [])
theorem r132 : vC tS tR jM 1 r132c := isin_ok (0) (0) (50) (50)
/-- X12_isIn -/
def r133c : aCt := (155, [aLt, aL 0 0, aL 51 51], [], [(some (aI 1 1), [(0, 51), (lLo, lHi), (lLo, lHi)], []), (some (aI 0 0), [(lLo, lHi), (lLo, lHi), (lLo, lHi)], [])], [])
theorem r133 : vC tS tR jM 1 r133c := isin_ok (0) (0) (51) (51)
/-- X12_isIn -/
def r134c : aCt := (155, [aLt, aL 0 0, aL 52 52], [], [(some (aI 1 1), [(0, 52), (lLo, lHi), (lLo, lHi)], []), (some (aI 0 0), [(lLo, lHi), (lLo, lHi), (lLo, lHi)], [])], [])
theorem r134 : vC tS tR jM 1 r134c := isin_ok (0) (0) (52) (52)
