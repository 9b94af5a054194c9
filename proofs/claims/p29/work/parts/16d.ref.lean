/-! L2: contracts of the reference -/
/-- X12_draw -/
def r81c : aCt := (218, [aR [314], aI 1 12], [], [(some (aI 0 11), [(lLo, lHi), (1, 12)], [])], [])
set_option maxRecDepth 100000 in
theorem r81 : vC tS tR jM 1 r81c := chkF_ok (D := 0) (hst := jM_st (by decide +kernel)) (T := []) (N := []) (sp := []) (fu := 24) (fa_nil) (by decide +kernel)
/-- X12_years -/
def r82c : aCt := (219, [aR [314], aIt, aLt], [(314, 26, 0, 0)], [(some (aIt), [(lLo, lHi), (lLo, lHi), (lLo, lHi)], [])], [(314, 0, 1), (314, 8, 15), (314, 17, 18), (314, 39, 41), (314, 42, 43), (318, 99, 101), (318, 102, 103), (318, 108, 109), (318, 119, 120), (318, 121, 122), (326, 0, 1), (326, 2, 3), (326, 4, 5), (326, 6, 7), (326, 8, 9), (326, 10, 11), (326, 12, 13), (326, 14, 15), (326, 16, 208), (328, 0, 64), (330, 0, 8191), (331, 0, 8320)])
set_option maxRecDepth 100000 in
theorem r82 : vC tS tR jM 1 r82c := chkF_ok (D := 0) (hst := jM_st (by decide +kernel)) (T := []) (N := []) (sp := []) (fu := 15) (fa_nil) (by decide +kernel)
/-- X12_years -/
def r83c : aCt := (219, [aR [314], aIt, aLt], [(314, 26, 1, 12), (314, 27, 1, 4), (314, 25, 2, 8)], [(some (aIt), [(lLo, lHi), (lLo, lHi), (lLo, lHi)], [])], [(314, 0, 1), (314, 8, 15), (314, 17, 18), (314, 39, 41), (314, 42, 43), (318, 99, 101), (318, 102, 103), (318, 108, 109), (318, 119, 120), (318, 121, 122), (326, 0, 1), (326, 2, 3), (326, 4, 5), (326, 6, 7), (326, 8, 9), (326, 10, 11), (326, 12, 13), (326, 14, 15), (326, 16, 208), (328, 0, 64), (330, 0, 8191), (331, 0, 8320)])
set_option maxRecDepth 100000 in
theorem r83 : vC tS tR jM 809 r83c := chkF_ok (D := 808) (hst := jM_st (by decide +kernel)) (T := [r77c, remc, r78c, r79c, r80c, r68c, r81c]) (N := [(49, [(0, aR [314]), (1, aI 1 30), (2, aLt), (4, aI 0 30)], [(314, 26, 1, 12), (314, 27, 1, 4), (314, 25, 2, 8), (314, 0, 0, 0)], 0, [(4, 1, 30, true)])]) (sp := []) (fu := 45) (fa_cons (vUq r77 (by decide)) (fa_cons (vUq rem_ok (by decide)) (fa_cons (vUq r78 (by decide)) (fa_cons (vUq r79 (by decide)) (fa_cons (vUq r80 (by decide)) (fa_cons (vUq r68 (by decide)) (fa_cons (vUq r81 (by decide)) (fa_nil)))))))) (by decide +kernel)
/-- X12_years -/
def r84c : aCt := (219, [aR [314], aIt, aLt], [], [(some (aIt), [(lLo, lHi), (lLo, lHi), (lLo, lHi)], [])], [(314, 0, 1), (314, 8, 15), (314, 17, 18), (314, 39, 41), (314, 42, 43), (318, 99, 101), (318, 102, 103), (318, 108, 109), (318, 119, 120), (318, 121, 122), (326, 0, 1), (326, 2, 3), (326, 4, 5), (326, 6, 7), (326, 8, 9), (326, 10, 11), (326, 12, 13), (326, 14, 15), (326, 16, 208), (328, 0, 64), (330, 0, 8191), (331, 0, 8320)])
theorem r84 : vC tS tR jM 809 r84c := vC_cs (n := 2) yrF (fun q hq => match q, hq with
  | 0, _ => vUq r82 (by decide)
  | 1, _ => vUq r83 (by decide)
  | q + 2, h => absurd h (by omega)) (fun m hI hj _ => by have g : (0 : Int) ≤ (m.1 314 26).toInt ∧ (m.1 314 26).toInt ≤ 12 := hI.1 314 26; have g2 : (0 : Int) ≤ (m.1 314 27).toInt ∧ (m.1 314 27).toInt ≤ 4 := hI.1 314 27; have g3 : (0 : Int) ≤ (m.1 314 25).toInt ∧ (m.1 314 25).toInt ≤ 8 := hI.1 314 25; exact yrF_ok hj g.1 g.2 g2.2 g3.2)
/-- X12_isIn -/
def r85c : aCt := (155, [aLt, aL 0 0, aL (-1) (-1)], [], [(some (aI 1 1), [(0, (-1)), (lLo, lHi), (lLo, lHi)], []), (some (aI 0 0), [(lLo, lHi), (lLo, lHi), (lLo, lHi)], [])], [])
theorem r85 : vC tS tR jM 1 r85c := isin_ok (0) (0) (-1) (-1)
/-- X12_isIn -/
def r86c : aCt := (155, [aLt, aL 0 0, aL 0 0], [], [(some (aI 1 1), [(0, 0), (lLo, lHi), (lLo, lHi)], []), (some (aI 0 0), [(lLo, lHi), (lLo, lHi), (lLo, lHi)], [])], [])
theorem r86 : vC tS tR jM 1 r86c := isin_ok (0) (0) (0) (0)
/-- X12_isIn -/
def r87c : aCt := (155, [aLt, aL 0 0, aL 4 4], [], [(some (aI 1 1), [(0, 4), (lLo, lHi), (lLo, lHi)], []), (some (aI 0 0), [(lLo, lHi), (lLo, lHi), (lLo, lHi)], [])], [])
theorem r87 : vC tS tR jM 1 r87c := isin_ok (0) (0) (4) (4)
/-- X12_isIn -/
def r88c : aCt := (155, [aLt, aL 0 0, aL 5 5], [], [(some (aI 1 1), [(0, 5), (lLo, lHi), (lLo, lHi)], []), (some (aI 0 0), [(lLo, lHi), (lLo, lHi), (lLo, lHi)], [])], [])
theorem r88 : vC tS tR jM 1 r88c := isin_ok (0) (0) (5) (5)
/-- X12_isIn -/
def r89c : aCt := (155, [aLt, aL 0 0, aL 6 6], [], [(some (aI 1 1), [(0, 6), (lLo, lHi), (lLo, lHi)], []), (some (aI 0 0), [(lLo, lHi), (lLo, lHi), (lLo, lHi)], [])], [])
theorem r89 : vC tS tR jM 1 r89c := isin_ok (0) (0) (6) (6)
/-- X12_isIn -/
def r90c : aCt := (155, [aLt, aL 0 0, aL 7 7], [], [(some (aI 1 1), [(0, 7), (lLo, lHi), (lLo, lHi)], []), (some (aI 0 0), [(lLo, lHi), (lLo, lHi), (lLo, lHi)], [])], [])
theorem r90 : vC tS tR jM 1 r90c := isin_ok (0) (0) (7) (7)
/-- X12_isIn -/
def r91c : aCt := (155, [aLt, aL 0 0, aL 8 8], [], [(some (aI 1 1), [(0, 8), (lLo, lHi), (lLo, lHi)], []), (some (aI 0 0), [(lLo, lHi), (lLo, lHi), (lLo, lHi)], [])], [])
theorem r91 : vC tS tR jM 1 r91c := isin_ok (0) (0) (8) (8)
/-- X12_isIn -/
def r92c : aCt := (155, [aLt, aL 0 0, aL 10 10], [], [(some (aI 1 1), [(0, 10), (lLo, lHi), (lLo, lHi)], []), (some (aI 0 0), [(lLo, lHi), (lLo, lHi), (lLo, lHi)], [])], [])
theorem r92 : vC tS tR jM 1 r92c := isin_ok (0) (0) (10) (10)
/-- X12_isIn -/
def r93c : aCt := (155, [aLt, aL 0 0, aL 11 11], [], [(some (aI 1 1), [(0, 11), (lLo, lHi), (lLo, lHi)], []), (some (aI 0 0), [(lLo, lHi), (lLo, lHi), (lLo, lHi)], [])], [])
theorem r93 : vC tS tR jM 1 r93c := isin_ok (0) (0) (11) (11)
/-- X12_isIn -/
def r94c : aCt := (155, [aLt, aL 0 0, aL 12 12], [], [(some (aI 1 1), [(0, 12), (lLo, lHi), (lLo, lHi)], []), (some (aI 0 0), [(lLo, lHi), (lLo, lHi), (lLo, lHi)], [])], [])
theorem r94 : vC tS tR jM 1 r94c := isin_ok (0) (0) (12) (12)
/-- X12_isIn -/
def r95c : aCt := (155, [aLt, aL 0 0, aL 13 13], [], [(some (aI 1 1), [(0, 13), (lLo, lHi), (lLo, lHi)], []), (some (aI 0 0), [(lLo, lHi), (lLo, lHi), (lLo, lHi)], [])], [])
theorem r95 : vC tS tR jM 1 r95c := isin_ok (0) (0) (13) (13)
/-- X12_isIn -/
def r96c : aCt := (155, [aLt, aL 0 0, aL 14 14], [], [(some (aI 1 1), [(0, 14), (lLo, lHi), (lLo, lHi)], []), (some (aI 0 0), [(lLo, lHi), (lLo, lHi), (lLo, lHi)], [])], [])
theorem r96 : vC tS tR jM 1 r96c := isin_ok (0) (0) (14) (14)
/-- X12_isIn -/
def r97c : aCt := (155, [aLt, aL 0 0, aL 15 15], [], [(some (aI 1 1), [(0, 15), (lLo, lHi), (lLo, lHi)], []), (some (aI 0 0), [(lLo, lHi), (lLo, lHi), (lLo, lHi)], [])], [])
theorem r97 : vC tS tR jM 1 r97c := isin_ok (0) (0) (15) (15)
/-- X12_isIn -/
def r98c : aCt := (155, [aLt, aL 0 0, aL 16 16], [], [(some (aI 1 1), [(0, 16), (lLo, lHi), (lLo, lHi)], []), (some (aI 0 0), [(lLo, lHi), (lLo, lHi), (lLo, lHi)], [])], [])
theorem r98 : vC tS tR jM 1 r98c := isin_ok (0) (0) (16) (16)
/-- X12_isIn -/
def r99c : aCt := (155, [aLt, aL 0 0, aL 17 17], [], [(some (aI 1 1), [(0, 17), (lLo, lHi), (lLo, lHi)], []), (some (aI 0 0), [(lLo, lHi), (lLo, lHi), (lLo, lHi)], [])], [])
theorem r99 : vC tS tR jM 1 r99c := isin_ok (0) (0) (17) (17)
/-- X12_isIn -/
def r100c : aCt := (155, [aLt, aL 0 0, aL 18 18], [], [(some (aI 1 1), [(0, 18), (lLo, lHi), (lLo, lHi)], []), (some (aI 0 0), [(lLo, lHi), (lLo, lHi), (lLo, lHi)], [])], [])
theorem r100 : vC tS tR jM 1 r100c := isin_ok (0) (0) (18) (18)
/-- X12_isIn -/
def r101c : aCt := (155, [aLt, aL 0 0, aL 19 19], [], [(some (aI 1 1), [(0, 19), (lLo, lHi), (lLo, lHi)], []), (some (aI 0 0), [(lLo, lHi), (lLo, lHi), (lLo, lHi)], [])], [])
theorem r101 : vC tS tR jM 1 r101c := isin_ok (0) (0) (19) (19)
/-- X12_isIn -/
def r102c : aCt := (155, [aLt, aL 0 0, aL 20 20], [], [(some (aI 1 1), [(0, 20), (lLo, lHi), (lLo, lHi)], []), (some (aI 0 0), [(lLo, lHi), (lLo, lHi), (lLo, lHi)], [])], [])
theorem r102 : vC tS tR jM 1 r102c := isin_ok (0) (0) (20) (20)
/-- X12_isIn -/
def r103c : aCt := (155, [aLt, aL 0 0, aL 21 21], [], [(some (aI 1 1), [(0, 21), (lLo, lHi), (lLo, lHi)], []), (some (aI 0 0), [(lLo, lHi), (lLo, lHi), (lLo, lHi)], [])], [])
theorem r103 : vC tS tR jM 1 r103c := isin_ok (0) (0) (21) (21)
/-- X12_isIn -/
def r104c : aCt := (155, [aLt, aL 0 0, aL 22 22], [], [(some (aI 1 1), [(0, 22), (lLo, lHi), (lLo, lHi)], []), (some (aI 0 0), [(lLo, lHi), (lLo, lHi), (lLo, lHi)], [])], [])
theorem r104 : vC tS tR jM 1 r104c := isin_ok (0) (0) (22) (22)
/-- X12_isIn -/
def r105c : aCt := (155, [aLt, aL 0 0, aL 23 23], [], [(some (aI 1 1), [(0, 23), (lLo, lHi), (lLo, lHi)], []), (some (aI 0 0), [(lLo, lHi), (lLo, lHi), (lLo, lHi)], [])], [])
theorem r105 : vC tS tR jM 1 r105c := isin_ok (0) (0) (23) (23)
/-- X12_isIn -/
def r106c : aCt := (155, [aLt, aL 0 0, aL 24 24], [], [(some (aI 1 1), [(0, 24), (lLo, lHi), (lLo, lHi)], []), (some (aI 0 0), [(lLo, lHi), (lLo, lHi), (lLo, lHi)], [])], [])
theorem r106 : vC tS tR jM 1 r106c := isin_ok (0) (0) (24) (24)
/-- X12_isIn -/
def r107c : aCt := (155, [aLt, aL 0 0, aL 25 25], [], [(some (aI 1 1), [(0, 25), (lLo, lHi), (lLo, lHi)], []), (some (aI 0 0), [(lLo, lHi), (lLo, lHi), (lLo, lHi)], [])], [])
theorem r107 : vC tS tR jM 1 r107c := isin_ok (0) (0) (25) (25)
