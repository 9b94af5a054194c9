/-! L2: the parser of the reference, ordA -/
/-- str271 -/
def oA0c : aCt := (271, [aR [1000]], [], [(some (aI 1 1), [(lLo, lHi)], [])], [])
theorem oA0 : vC tS tRA jM 1 oA0c := str_len (x := 0) (n := 1) (by decide +kernel) (by decide +kernel) rfl
/-- str272 -/
def oA1c : aCt := (272, [aR [1000], aI 0 0], [], [(some (aI 121 121), [(lLo, lHi), (lLo, lHi)], [])], [])
theorem oA1 : vC tS tRA jM 1 oA1c := str_at (x := 0) (n := 1) (i0 := 0) (i1 := 0) (by decide +kernel) (by decide) (by decide) (rng_of (by decide +kernel))
/-- X12_isAmong -/
def oA2c : aCt := (157, [aR [1000], aI 0 255], [], [(some (aI 0 0), [(lLo, lHi), (0, 255)], []), (some (aI 1 1), [(lLo, lHi), (121, 121)], [])], [])
set_option maxRecDepth 100000 in
theorem oA2 : vC tS tRA jM 2 oA2c := chkF_ok (D := 1) (hst := jM_st (by decide +kernel)) (T := [oA0c, oA1c]) (N := []) (sp := []) (fu := 26) (fa_cons (vUq oA0 (by decide)) (fa_cons (vUq oA1 (by decide)) (fa_nil))) (by decide +kernel)
/-- X12_isSign -/
def oA3c : aCt := (171, [aI 0 255], [], [(some (aI 0 0), [(0, 255)], []), (some (aI 1 1), [(60, 62)], [])], [])
set_option maxRecDepth 100000 in
theorem oA3 : vC tS tRA jM 1 oA3c := chkF_ok (D := 0) (hst := jM_st (by decide +kernel)) (T := []) (N := []) (sp := []) (fu := 19) (fa_nil) (by decide +kernel)
/-- X12_isSign -/
def oA4c : aCt := (171, [aI (-1) (-1)], [], [(some (aI 0 0), [((-1), (-1))], [])], [])
set_option maxRecDepth 100000 in
theorem oA4 : vC tS tRA jM 1 oA4c := chkF_ok (D := 0) (hst := jM_st (by decide +kernel)) (T := []) (N := []) (sp := []) (fu := 18) (fa_nil) (by decide +kernel)
/-- X12_isAmong -/
def oA5c : aCt := (157, [aR [1000], aI (-1) (-1)], [], [(some (aI 0 0), [(lLo, lHi), ((-1), (-1))], [])], [])
set_option maxRecDepth 100000 in
theorem oA5 : vC tS tRA jM 2 oA5c := chkF_ok (D := 1) (hst := jM_st (by decide +kernel)) (T := [oA0c, oA1c]) (N := []) (sp := []) (fu := 26) (fa_cons (vUq oA0 (by decide)) (fa_cons (vUq oA1 (by decide)) (fa_nil))) (by decide +kernel)
/-- J9_min_f86c9 -/
def oA6c : aCt := (270, [aLt, aLt], [], [(some (aLt), [(lLo, lHi), (lLo, lHi)], [])], [])
set_option maxRecDepth 100000 in
theorem oA6 : vC tS tRA jM 1 oA6c := chkF_ok (D := 0) (hst := jM_st (by decide +kernel)) (T := []) (N := []) (sp := []) (fu := 14) (fa_nil) (by decide +kernel)
/-- J9_max_f86c9 -/
def oA7c : aCt := (268, [aLt, aLt], [], [(some (aLt), [(lLo, lHi), (lLo, lHi)], [])], [])
set_option maxRecDepth 100000 in
theorem oA7 : vC tS tRA jM 1 oA7c := chkF_ok (D := 0) (hst := jM_st (by decide +kernel)) (T := []) (N := []) (sp := []) (fu := 14) (fa_nil) (by decide +kernel)
/-- X12_within -/
def oA8c : aCt := (167, [aLt], [], [(some (aIt), [(lLo, lHi)], [])], [])
set_option maxRecDepth 100000 in
theorem oA8 : vC tS tRA jM 2 oA8c := chkF_ok (D := 1) (hst := jM_st (by decide +kernel)) (T := [oA6c, oA7c]) (N := []) (sp := []) (fu := 14) (fa_cons (vUq oA6 (by decide)) (fa_cons (vUq oA7 (by decide)) (fa_nil))) (by decide +kernel)
/-- str271 -/
def oA9c : aCt := (271, [aR [1001]], [], [(some (aI 6 6), [(lLo, lHi)], [])], [])
theorem oA9 : vC tS tRA jM 1 oA9c := str_len (x := 1) (n := 6) (by decide +kernel) (by decide +kernel) rfl
/-- str272 -/
def oA10c : aCt := (272, [aR [1001], aI 0 0], [], [(some (aI 121 121), [(lLo, lHi), (lLo, lHi)], [])], [])
theorem oA10 : vC tS tRA jM 1 oA10c := str_at (x := 1) (n := 6) (i0 := 0) (i1 := 0) (by decide +kernel) (by decide) (by decide) (rng_of (by decide +kernel))
/-- str272 -/
def oA11c : aCt := (272, [aR [1001], aI 1 1], [], [(some (aI 119 119), [(lLo, lHi), (lLo, lHi)], [])], [])
theorem oA11 : vC tS tRA jM 1 oA11c := str_at (x := 1) (n := 6) (i0 := 1) (i1 := 1) (by decide +kernel) (by decide) (by decide) (rng_of (by decide +kernel))
/-- str272 -/
def oA12c : aCt := (272, [aR [1001], aI 2 2], [], [(some (aI 102 102), [(lLo, lHi), (lLo, lHi)], [])], [])
theorem oA12 : vC tS tRA jM 1 oA12c := str_at (x := 1) (n := 6) (i0 := 2) (i1 := 2) (by decide +kernel) (by decide) (by decide) (rng_of (by decide +kernel))
/-- str272 -/
def oA13c : aCt := (272, [aR [1001], aI 3 3], [], [(some (aI 108 108), [(lLo, lHi), (lLo, lHi)], [])], [])
theorem oA13 : vC tS tRA jM 1 oA13c := str_at (x := 1) (n := 6) (i0 := 3) (i1 := 3) (by decide +kernel) (by decide) (by decide) (rng_of (by decide +kernel))
/-- str272 -/
def oA14c : aCt := (272, [aR [1001], aI 4 4], [], [(some (aI 99 99), [(lLo, lHi), (lLo, lHi)], [])], [])
theorem oA14 : vC tS tRA jM 1 oA14c := str_at (x := 1) (n := 6) (i0 := 4) (i1 := 4) (by decide +kernel) (by decide) (by decide) (rng_of (by decide +kernel))
/-- str272 -/
def oA15c : aCt := (272, [aR [1001], aI 5 5], [], [(some (aI 100 100), [(lLo, lHi), (lLo, lHi)], [])], [])
theorem oA15 : vC tS tRA jM 1 oA15c := str_at (x := 1) (n := 6) (i0 := 5) (i1 := 5) (by decide +kernel) (by decide) (by decide) (rng_of (by decide +kernel))
/-- X12_isAmong -/
def oA16c : aCt := (157, [aR [1001], aI 0 255], [], [(some (aI 0 0), [(lLo, lHi), (0, 255)], []), (some (aI 1 1), [(lLo, lHi), (99, 121)], [])], [])
set_option maxRecDepth 100000 in
theorem oA16 : vC tS tRA jM 2 oA16c := chkF_ok (D := 1) (hst := jM_st (by decide +kernel)) (T := [oA9c, oA10c, oA11c, oA12c, oA13c, oA14c, oA15c]) (N := []) (sp := []) (fu := 81) (fa_cons (vUq oA9 (by decide)) (fa_cons (vUq oA10 (by decide)) (fa_cons (vUq oA11 (by decide)) (fa_cons (vUq oA12 (by decide)) (fa_cons (vUq oA13 (by decide)) (fa_cons (vUq oA14 (by decide)) (fa_cons (vUq oA15 (by decide)) (fa_nil)))))))) (by decide +kernel)
/-- X12_isAmong -/
def oA17c : aCt := (157, [aR [1001], aI (-1) (-1)], [], [(some (aI 0 0), [(lLo, lHi), ((-1), (-1))], [])], [])
set_option maxRecDepth 100000 in
theorem oA17 : vC tS tRA jM 2 oA17c := chkF_ok (D := 1) (hst := jM_st (by decide +kernel)) (T := [oA9c, oA10c, oA11c, oA12c, oA13c, oA14c, oA15c]) (N := []) (sp := []) (fu := 81) (fa_cons (vUq oA9 (by decide)) (fa_cons (vUq oA10 (by decide)) (fa_cons (vUq oA11 (by decide)) (fa_cons (vUq oA12 (by decide)) (fa_cons (vUq oA13 (by decide)) (fa_cons (vUq oA14 (by decide)) (fa_cons (vUq oA15 (by decide)) (fa_nil)))))))) (by decide +kernel)
