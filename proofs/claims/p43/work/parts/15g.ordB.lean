/-! L2: the parser of the reference, ordB -/
/-- str271 -/
def oB0c : aCt := (271, [aR [1000]], [], [(some (aI 1 1), [(lLo, lHi)], [])], [])
theorem oB0 : vC tS tRB jM 1 oB0c := str_len (x := 0) (n := 1) (by decide +kernel) (by decide +kernel) rfl
/-- str272 -/
def oB1c : aCt := (272, [aR [1000], aI 0 0], [], [(some (aI 121 121), [(lLo, lHi), (lLo, lHi)], [])], [])
theorem oB1 : vC tS tRB jM 1 oB1c := str_at (x := 0) (n := 1) (i0 := 0) (i1 := 0) (by decide +kernel) (by decide) (by decide) (rng_of (by decide +kernel))
/-- X12_isAmong -/
def oB2c : aCt := (157, [aR [1000], aI 0 255], [], [(some (aI 0 0), [(lLo, lHi), (0, 255)], []), (some (aI 1 1), [(lLo, lHi), (121, 121)], [])], [])
set_option maxRecDepth 100000 in
theorem oB2 : vC tS tRB jM 2 oB2c := chkF_ok (D := 1) (hst := jM_st (by decide +kernel)) (T := [oB0c, oB1c]) (N := []) (sp := []) (fu := 26) (fa_cons (vUq oB0 (by decide)) (fa_cons (vUq oB1 (by decide)) (fa_nil))) (by decide +kernel)
/-- X12_isSign -/
def oB3c : aCt := (171, [aI 0 255], [], [(some (aI 0 0), [(0, 255)], []), (some (aI 1 1), [(60, 62)], [])], [])
set_option maxRecDepth 100000 in
theorem oB3 : vC tS tRB jM 1 oB3c := chkF_ok (D := 0) (hst := jM_st (by decide +kernel)) (T := []) (N := []) (sp := []) (fu := 19) (fa_nil) (by decide +kernel)
/-- X12_isSign -/
def oB4c : aCt := (171, [aI (-1) (-1)], [], [(some (aI 0 0), [((-1), (-1))], [])], [])
set_option maxRecDepth 100000 in
theorem oB4 : vC tS tRB jM 1 oB4c := chkF_ok (D := 0) (hst := jM_st (by decide +kernel)) (T := []) (N := []) (sp := []) (fu := 18) (fa_nil) (by decide +kernel)
/-- X12_isAmong -/
def oB5c : aCt := (157, [aR [1000], aI (-1) (-1)], [], [(some (aI 0 0), [(lLo, lHi), ((-1), (-1))], [])], [])
set_option maxRecDepth 100000 in
theorem oB5 : vC tS tRB jM 2 oB5c := chkF_ok (D := 1) (hst := jM_st (by decide +kernel)) (T := [oB0c, oB1c]) (N := []) (sp := []) (fu := 26) (fa_cons (vUq oB0 (by decide)) (fa_cons (vUq oB1 (by decide)) (fa_nil))) (by decide +kernel)
/-- J9_min_f86c9 -/
def oB6c : aCt := (270, [aLt, aLt], [], [(some (aLt), [(lLo, lHi), (lLo, lHi)], [])], [])
set_option maxRecDepth 100000 in
theorem oB6 : vC tS tRB jM 1 oB6c := chkF_ok (D := 0) (hst := jM_st (by decide +kernel)) (T := []) (N := []) (sp := []) (fu := 14) (fa_nil) (by decide +kernel)
/-- J9_max_f86c9 -/
def oB7c : aCt := (268, [aLt, aLt], [], [(some (aLt), [(lLo, lHi), (lLo, lHi)], [])], [])
set_option maxRecDepth 100000 in
theorem oB7 : vC tS tRB jM 1 oB7c := chkF_ok (D := 0) (hst := jM_st (by decide +kernel)) (T := []) (N := []) (sp := []) (fu := 14) (fa_nil) (by decide +kernel)
/-- X12_within -/
def oB8c : aCt := (167, [aLt], [], [(some (aIt), [(lLo, lHi)], [])], [])
set_option maxRecDepth 100000 in
theorem oB8 : vC tS tRB jM 2 oB8c := chkF_ok (D := 1) (hst := jM_st (by decide +kernel)) (T := [oB6c, oB7c]) (N := []) (sp := []) (fu := 14) (fa_cons (vUq oB6 (by decide)) (fa_cons (vUq oB7 (by decide)) (fa_nil))) (by decide +kernel)
/-- str271 -/
def oB9c : aCt := (271, [aR [1001]], [], [(some (aI 6 6), [(lLo, lHi)], [])], [])
theorem oB9 : vC tS tRB jM 1 oB9c := str_len (x := 1) (n := 6) (by decide +kernel) (by decide +kernel) rfl
/-- str272 -/
def oB10c : aCt := (272, [aR [1001], aI 0 0], [], [(some (aI 121 121), [(lLo, lHi), (lLo, lHi)], [])], [])
theorem oB10 : vC tS tRB jM 1 oB10c := str_at (x := 1) (n := 6) (i0 := 0) (i1 := 0) (by decide +kernel) (by decide) (by decide) (rng_of (by decide +kernel))
/-- str272 -/
def oB11c : aCt := (272, [aR [1001], aI 1 1], [], [(some (aI 119 119), [(lLo, lHi), (lLo, lHi)], [])], [])
theorem oB11 : vC tS tRB jM 1 oB11c := str_at (x := 1) (n := 6) (i0 := 1) (i1 := 1) (by decide +kernel) (by decide) (by decide) (rng_of (by decide +kernel))
/-- str272 -/
def oB12c : aCt := (272, [aR [1001], aI 2 2], [], [(some (aI 102 102), [(lLo, lHi), (lLo, lHi)], [])], [])
theorem oB12 : vC tS tRB jM 1 oB12c := str_at (x := 1) (n := 6) (i0 := 2) (i1 := 2) (by decide +kernel) (by decide) (by decide) (rng_of (by decide +kernel))
/-- str272 -/
def oB13c : aCt := (272, [aR [1001], aI 3 3], [], [(some (aI 108 108), [(lLo, lHi), (lLo, lHi)], [])], [])
theorem oB13 : vC tS tRB jM 1 oB13c := str_at (x := 1) (n := 6) (i0 := 3) (i1 := 3) (by decide +kernel) (by decide) (by decide) (rng_of (by decide +kernel))
/-- str272 -/
def oB14c : aCt := (272, [aR [1001], aI 4 4], [], [(some (aI 99 99), [(lLo, lHi), (lLo, lHi)], [])], [])
theorem oB14 : vC tS tRB jM 1 oB14c := str_at (x := 1) (n := 6) (i0 := 4) (i1 := 4) (by decide +kernel) (by decide) (by decide) (rng_of (by decide +kernel))
/-- str272 -/
def oB15c : aCt := (272, [aR [1001], aI 5 5], [], [(some (aI 100 100), [(lLo, lHi), (lLo, lHi)], [])], [])
theorem oB15 : vC tS tRB jM 1 oB15c := str_at (x := 1) (n := 6) (i0 := 5) (i1 := 5) (by decide +kernel) (by decide) (by decide) (rng_of (by decide +kernel))
/-- X12_isAmong -/
def oB16c : aCt := (157, [aR [1001], aI 0 255], [], [(some (aI 0 0), [(lLo, lHi), (0, 255)], []), (some (aI 1 1), [(lLo, lHi), (99, 121)], [])], [])
set_option maxRecDepth 100000 in
theorem oB16 : vC tS tRB jM 2 oB16c := chkF_ok (D := 1) (hst := jM_st (by decide +kernel)) (T := [oB9c, oB10c, oB11c, oB12c, oB13c, oB14c, oB15c]) (N := []) (sp := []) (fu := 81) (fa_cons (vUq oB9 (by decide)) (fa_cons (vUq oB10 (by decide)) (fa_cons (vUq oB11 (by decide)) (fa_cons (vUq oB12 (by decide)) (fa_cons (vUq oB13 (by decide)) (fa_cons (vUq oB14 (by decide)) (fa_cons (vUq oB15 (by decide)) (fa_nil)))))))) (by decide +kernel)
/-- X12_isAmong -/
def oB17c : aCt := (157, [aR [1001], aI (-1) (-1)], [], [(some (aI 0 0), [(lLo, lHi), ((-1), (-1))], [])], [])
set_option maxRecDepth 100000 in
theorem oB17 : vC tS tRB jM 2 oB17c := chkF_ok (D := 1) (hst := jM_st (by decide +kernel)) (T := [oB9c, oB10c, oB11c, oB12c, oB13c, oB14c, oB15c]) (N := []) (sp := []) (fu := 81) (fa_cons (vUq oB9 (by decide)) (fa_cons (vUq oB10 (by decide)) (fa_cons (vUq oB11 (by decide)) (fa_cons (vUq oB12 (by decide)) (fa_cons (vUq oB13 (by decide)) (fa_cons (vUq oB14 (by decide)) (fa_cons (vUq oB15 (by decide)) (fa_nil)))))))) (by decide +kernel)
