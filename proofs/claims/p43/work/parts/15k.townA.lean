/-! L2: the town is read, townA -/
def zka_x0 : Nat × aV := (0, aR [314])
def zka_x1 : Nat × aV := (1, aI 112 112)
def zka_x2 : Nat × aV := (2, aR [323])
def zka_x3 : Nat × aV := (3, aI 0 0)
def zka_x4 : Nat × aV := (4, aR [1004])
def zka_x5 : Nat × aV := (5, aI 0 0)
def zka_x6 : Nat × aV := (5, aI 1 1)
def zka_x7 : Nat × aV := (5, aI 2 2)
def zka_x8 : Nat × aV := (6, aI 0 0)
def zka_x9 : Nat × aV := (6, aI 1 1)
def zka_x10 : Nat × aV := (6, aI (-1) (-1))
def zka_x11 : Nat × aV := (5, aI 3 3)
def zka_x12 : Nat × aV := (1, aI 101 101)
def zka_x13 : Nat × aV := (2, aR [321])
def zka_x14 : Nat × aV := (4, aR [1003])
def zka_x15 : Nat × aV := (5, aI 4 4)
def zka_x16 : Nat × aV := (6, aI 2 2)
def zka_x17 : Nat × aV := (6, aI 3 3)
def zka_x18 : Nat × aV := (5, aI 8 8)
def zka_x19 : Nat × aV := (5, aI 5 5)
def zka_x20 : Nat × aV := (5, aI 9 9)
def zka_x21 : Nat × aV := (5, aI 6 6)
def zka_x22 : Nat × aV := (5, aI 10 10)
def zka_x23 : Nat × aV := (5, aI 12 12)
def zka_x24 : Nat × aV := (5, aI 7 7)
def zka_x25 : Nat × aV := (5, aI 11 11)
def zka_x26 : Nat × aV := (5, aI 13 13)
def zka_x27 : Nat × aV := (5, aI 14 14)
def zka_x28 : Nat × aV := (5, aI 15 15)
def zka_x29 : Nat × aV := (1, aI 115 115)
def zka_x30 : Nat × aV := (2, aR [319])
def zka_x31 : Nat × aV := (4, aR [1002])
def zka_x32 : Nat × aV := (1, aIt)
def zka_x33 : Nat × aV := (2, aI 0 12)
def zka_x34 : Nat × aV := (2, aI 0 4)
def zka_x35 : Nat × aV := (3, aI 4 4)
def zka_x36 : Nat × aV := (3, aI 2 2)
def zka_x37 : Nat × aV := (3, aI 8 8)
def zka_y0 : Nat × Nat × Int × Int := (314, 11, 0, 241)
def zka_y1 : Nat × Nat × Int × Int := (314, 8, 0, 0)
def zka_y2 : Nat × Nat × Int × Int := (314, 10, 0, 239)
def zka_y3 : Nat × Nat × Int × Int := (314, 11, (-1), (-1))
def zka_y4 : Nat × Nat × Int × Int := (314, 10, 1, 240)
def zka_y5 : Nat × Nat × Int × Int := (323, 0, 0, 0)
def zka_y6 : Nat × Nat × Int × Int := (323, 1, 4, 4)
def zka_y7 : Nat × Nat × Int × Int := (323, 0, (-539), 2277)
def zka_y8 : Nat × Nat × Int × Int := (323, 0, 0, 7)
def zka_y9 : Nat × Nat × Int × Int := (314, 10, 0, 240)
def zka_y10 : Nat × Nat × Int × Int := (323, 1, 0, 9)
def zka_y11 : Nat × Nat × Int × Int := (323, 1, (-539), 2277)
def zka_y12 : Nat × Nat × Int × Int := (321, 0, 0, 0)
def zka_y13 : Nat × Nat × Int × Int := (321, 1, 1, 1)
def zka_y14 : Nat × Nat × Int × Int := (321, 2, 5, 5)
def zka_y15 : Nat × Nat × Int × Int := (321, 3, 0, 0)
def zka_y16 : Nat × Nat × Int × Int := (321, 0, (-539), 2277)
def zka_y17 : Nat × Nat × Int × Int := (321, 0, 0, 7)
def zka_y18 : Nat × Nat × Int × Int := (321, 1, 0, 7)
def zka_y19 : Nat × Nat × Int × Int := (321, 1, (-539), 2277)
def zka_y20 : Nat × Nat × Int × Int := (321, 2, 1, 40)
def zka_y21 : Nat × Nat × Int × Int := (321, 2, (-539), 2277)
def zka_y22 : Nat × Nat × Int × Int := (321, 3, 0, 1)
def zka_y23 : Nat × Nat × Int × Int := (321, 3, (-539), 2277)
def zka_y24 : Nat × Nat × Int × Int := (319, 0, 2, 8)
def zka_y25 : Nat × Nat × Int × Int := (319, 1, 0, 99)
def zka_y26 : Nat × Nat × Int × Int := (319, 0, 4, 4)
def zka_y27 : Nat × Nat × Int × Int := (319, 1, 20, 20)
def zka_y28 : Nat × Nat × Int × Int := (319, 0, (-539), 2277)
def zka_y29 : Nat × Nat × Int × Int := (319, 1, (-539), 2277)
def zka_y30 : Nat × Nat × Int × Int := (314, 28, 0, 0)
def zka_y31 : Nat × Nat × Int × Int := (314, 29, 0, 0)
def zka_y32 : Nat × Nat × Int × Int := (314, 31, 0, 0)
def zka_y33 : Nat × Nat × Int × Int := (314, 29, 1, 1)
def zka_y34 : Nat × Nat × Int × Int := (314, 28, 1, 1)
def zka_y35 : Nat × Nat × Int × Int := (314, 31, 1, 1)
def zka_y36 : Nat × Nat × Int × Int := (314, 29, 1, 4)
def zka_y37 : Nat × Nat × Int × Int := (314, 28, 1, 12)
def zka_y38 : Nat × Nat × Int × Int := (321, 4, 0, 7)
def zka_y39 : Nat × Nat × Int × Int := (321, 5, 0, 7)
def zka_y40 : Nat × Nat × Int × Int := (321, 6, 1, 40)
def zka_y41 : Nat × Nat × Int × Int := (321, 7, 0, 1)
def zka_y42 : Nat × Nat × Int × Int := (321, 4, 0, 0)
def zka_y43 : Nat × Nat × Int × Int := (321, 5, 1, 1)
def zka_y44 : Nat × Nat × Int × Int := (321, 6, 5, 5)
def zka_y45 : Nat × Nat × Int × Int := (321, 7, 0, 0)
def zka_y46 : Nat × Nat × Int × Int := (321, 4, (-539), 2277)
def zka_y47 : Nat × Nat × Int × Int := (321, 5, (-539), 2277)
def zka_y48 : Nat × Nat × Int × Int := (321, 6, (-539), 2277)
def zka_y49 : Nat × Nat × Int × Int := (321, 7, (-539), 2277)
def zka_y50 : Nat × Nat × Int × Int := (314, 28, 2, 2)
def zka_y51 : Nat × Nat × Int × Int := (323, 2, 0, 7)
def zka_y52 : Nat × Nat × Int × Int := (323, 3, 0, 9)
def zka_y53 : Nat × Nat × Int × Int := (323, 2, 0, 0)
def zka_y54 : Nat × Nat × Int × Int := (323, 3, 4, 4)
def zka_y55 : Nat × Nat × Int × Int := (323, 2, (-539), 2277)
def zka_y56 : Nat × Nat × Int × Int := (323, 3, (-539), 2277)
def zka_y57 : Nat × Nat × Int × Int := (314, 29, 2, 2)
def zka_y58 : Nat × Nat × Int × Int := (321, 8, 0, 7)
def zka_y59 : Nat × Nat × Int × Int := (321, 9, 0, 7)
def zka_y60 : Nat × Nat × Int × Int := (321, 10, 1, 40)
def zka_y61 : Nat × Nat × Int × Int := (321, 11, 0, 1)
def zka_y62 : Nat × Nat × Int × Int := (321, 8, 0, 0)
def zka_y63 : Nat × Nat × Int × Int := (321, 9, 1, 1)
def zka_y64 : Nat × Nat × Int × Int := (321, 10, 5, 5)
def zka_y65 : Nat × Nat × Int × Int := (321, 11, 0, 0)
def zka_y66 : Nat × Nat × Int × Int := (321, 8, (-539), 2277)
def zka_y67 : Nat × Nat × Int × Int := (321, 9, (-539), 2277)
def zka_y68 : Nat × Nat × Int × Int := (321, 10, (-539), 2277)
def zka_y69 : Nat × Nat × Int × Int := (321, 11, (-539), 2277)
def zka_y70 : Nat × Nat × Int × Int := (314, 28, 3, 3)
def zka_l2 : List (Int × Int) := [(lLo, lHi), (lLo, lHi)]
def zka_l3 : List (Int × Int) := [(lLo, lHi), (lLo, lHi), (lLo, lHi)]
def zka_l5 : List (Int × Int) := [(lLo, lHi), (lLo, lHi), (lLo, lHi), (lLo, lHi), (lLo, lHi)]
def zka_q0 : aFs := [zka_y3, zka_y1]
def zka_q1 : aFs := [zka_y3, zka_y4]
def zka_q2 : aFs := [zka_y3, zka_y1, zka_y5, zka_y6]
def zka_q3 : aFs := [zka_y3, zka_y1, zka_y5, zka_y6, zka_y2]
def zka_q4 : aFs := [zka_y3, zka_y1, zka_y9]
def zka_q5 : aFs := [zka_y3, zka_y1, zka_y12, zka_y13, zka_y14, zka_y15]
def zka_q6 : aFs := [zka_y3, zka_y1, zka_y12, zka_y13, zka_y14, zka_y15, zka_y2]
def zka_q7 : aFs := [zka_y3, zka_y1, zka_y13, zka_y14, zka_y15, zka_y17, zka_y2]
def zka_q8 : aFs := [zka_y3, zka_y1, zka_y12, zka_y14, zka_y15, zka_y18, zka_y2]
def zka_q9 : aFs := [zka_y3, zka_y1, zka_y12, zka_y13, zka_y15, zka_y20, zka_y2]
def zka_q10 : aFs := [zka_y3, zka_y1, zka_y12, zka_y13, zka_y14, zka_y22, zka_y2]
def zka_q11 : aFs := [zka_y3, zka_y1, zka_y14, zka_y15, zka_y17, zka_y18, zka_y2]
def zka_q12 : aFs := [zka_y3, zka_y1, zka_y13, zka_y15, zka_y17, zka_y20, zka_y2]
def zka_q13 : aFs := [zka_y3, zka_y1, zka_y13, zka_y14, zka_y17, zka_y22, zka_y2]
def zka_q14 : aFs := [zka_y3, zka_y1, zka_y12, zka_y15, zka_y18, zka_y20, zka_y2]
def zka_q15 : aFs := [zka_y3, zka_y1, zka_y12, zka_y14, zka_y18, zka_y22, zka_y2]
def zka_q16 : aFs := [zka_y3, zka_y1, zka_y12, zka_y13, zka_y20, zka_y22, zka_y2]
def zka_q17 : aFs := [zka_y3, zka_y1, zka_y26, zka_y27]
def zka_q18 : aFs := [zka_y3, zka_y1, zka_y26, zka_y27, zka_y2]
def zka_q19 : aFs := [zka_y3, zka_y1, zka_y42, zka_y43, zka_y44, zka_y45]
def zka_q20 : aFs := [zka_y3, zka_y1, zka_y42, zka_y43, zka_y44, zka_y45, zka_y2]
def zka_q21 : aFs := [zka_y3, zka_y1, zka_y43, zka_y44, zka_y45, zka_y38, zka_y2]
def zka_q22 : aFs := [zka_y3, zka_y1, zka_y42, zka_y44, zka_y45, zka_y39, zka_y2]
def zka_q23 : aFs := [zka_y3, zka_y1, zka_y42, zka_y43, zka_y45, zka_y40, zka_y2]
def zka_q24 : aFs := [zka_y3, zka_y1, zka_y42, zka_y43, zka_y44, zka_y41, zka_y2]
def zka_q25 : aFs := [zka_y3, zka_y1, zka_y44, zka_y45, zka_y38, zka_y39, zka_y2]
def zka_q26 : aFs := [zka_y3, zka_y1, zka_y43, zka_y45, zka_y38, zka_y40, zka_y2]
def zka_q27 : aFs := [zka_y3, zka_y1, zka_y43, zka_y44, zka_y38, zka_y41, zka_y2]
def zka_q28 : aFs := [zka_y3, zka_y1, zka_y42, zka_y45, zka_y39, zka_y40, zka_y2]
def zka_q29 : aFs := [zka_y3, zka_y1, zka_y42, zka_y44, zka_y39, zka_y41, zka_y2]
def zka_q30 : aFs := [zka_y3, zka_y1, zka_y42, zka_y43, zka_y40, zka_y41, zka_y2]
def zka_q31 : aFs := [zka_y3, zka_y1, zka_y53, zka_y54]
def zka_q32 : aFs := [zka_y3, zka_y1, zka_y53, zka_y54, zka_y2]
def zka_q33 : aFs := [zka_y3, zka_y1, zka_y62, zka_y63, zka_y64, zka_y65]
def zka_q34 : aFs := [zka_y3, zka_y1, zka_y62, zka_y63, zka_y64, zka_y65, zka_y2]
def zka_q35 : aFs := [zka_y3, zka_y1, zka_y63, zka_y64, zka_y65, zka_y58, zka_y2]
def zka_q36 : aFs := [zka_y3, zka_y1, zka_y62, zka_y64, zka_y65, zka_y59, zka_y2]
def zka_q37 : aFs := [zka_y3, zka_y1, zka_y62, zka_y63, zka_y65, zka_y60, zka_y2]
def zka_q38 : aFs := [zka_y3, zka_y1, zka_y62, zka_y63, zka_y64, zka_y61, zka_y2]
def zka_q39 : aFs := [zka_y3, zka_y1, zka_y64, zka_y65, zka_y58, zka_y59, zka_y2]
def zka_q40 : aFs := [zka_y3, zka_y1, zka_y63, zka_y65, zka_y58, zka_y60, zka_y2]
def zka_q41 : aFs := [zka_y3, zka_y1, zka_y63, zka_y64, zka_y58, zka_y61, zka_y2]
def zka_q42 : aFs := [zka_y3, zka_y1, zka_y62, zka_y65, zka_y59, zka_y60, zka_y2]
def zka_q43 : aFs := [zka_y3, zka_y1, zka_y62, zka_y64, zka_y59, zka_y61, zka_y2]
def zka_q44 : aFs := [zka_y3, zka_y1, zka_y62, zka_y63, zka_y60, zka_y61, zka_y2]
def rdF (s : Nat) : aFs := (List.range s).flatMap (fun e => [(321, 4 * e, 0, 7), (321, 4 * e + 1, 0, 7), (321, 4 * e + 2, 1, 40), (321, 4 * e + 3, 0, 1)])
def fkF (p : Nat) : aFs := (List.range p).flatMap (fun q => [(323, 2 * q, 0, 7), (323, 2 * q + 1, 0, 9)])
/-- X12_fails -/
def tA0c : aCt := (163, [aR [314]], [], [(some (aI 0 0), [(lLo, lHi)], [zka_y0])], [(314, 11, 12)])
set_option maxRecDepth 100000 in
theorem tA0 : vC tS tRA jM 1 tA0c := chkF_ok (D := 0) (hst := jM_st (by decide +kernel)) (T := []) (N := []) (sp := []) (fu := 17) (fa_nil) (by decide +kernel)
/-- str271 -/
def tA1c : aCt := (271, [aR [1004]], [], [(some (aI 2 2), [(lLo, lHi)], [])], [])
theorem tA1 : vC tS tRA jM 1 tA1c := str_len (x := 4) (n := 2) (by decide +kernel) (by decide +kernel) rfl
/-- X12_usual -/
def tA2c : aCt := (184, [aI 112 112, aI 0 0], [], [(some (aI 0 0), [(112, 112), (0, 0)], [])], [])
set_option maxRecDepth 100000 in
theorem tA2 : vC tS tRA jM 1 tA2c := chkF_ok (D := 0) (hst := jM_st (by decide +kernel)) (T := []) (N := []) (sp := []) (fu := 18) (fa_nil) (by decide +kernel)
/-- X12_usual -/
def tA3c : aCt := (184, [aI 112 112, aI 1 1], [], [(some (aI 4 4), [(112, 112), (1, 1)], [])], [])
set_option maxRecDepth 100000 in
theorem tA3 : vC tS tRA jM 1 tA3c := chkF_ok (D := 0) (hst := jM_st (by decide +kernel)) (T := []) (N := []) (sp := []) (fu := 17) (fa_nil) (by decide +kernel)
/-- str272 -/
def tA4c : aCt := (272, [aR [1004], aI 0 0], [], [(some (aI 104 104), zka_l2, [])], [])
theorem tA4 : vC tS tRA jM 1 tA4c := str_at (x := 4) (n := 2) (i0 := 0) (i1 := 0) (by decide +kernel) (by decide) (by decide) (rng_of (by decide +kernel))
/-- str272 -/
def tA5c : aCt := (272, [aR [1004], aI 1 1], [], [(some (aI 102 102), zka_l2, [])], [])
theorem tA5 : vC tS tRA jM 1 tA5c := str_at (x := 4) (n := 2) (i0 := 1) (i1 := 1) (by decide +kernel) (by decide) (by decide) (rng_of (by decide +kernel))
/-- X12_spotOf -/
def tA6c : aCt := (180, [aR [1004], aI 0 255], [], [(some (aI (-1) (-1)), [(lLo, lHi), (0, 255)], []), (some (aI 1 1), [(lLo, lHi), (102, 102)], []), (some (aI 0 0), [(lLo, lHi), (104, 104)], [])], [])
set_option maxRecDepth 100000 in
theorem tA6 : vC tS tRA jM 2 tA6c := chkF_ok (D := 1) (hst := jM_st (by decide +kernel)) (T := [tA1c, tA4c, tA5c]) (N := []) (sp := []) (fu := 37) (fa_cons (vUq tA1 (by decide)) (fa_cons (vUq tA4 (by decide)) (fa_cons (vUq tA5 (by decide)) (fa_nil)))) (by decide +kernel)
/-- X12_spotOf -/
def tA7c : aCt := (180, [aR [1004], aI (-1) (-1)], [], [(some (aI (-1) (-1)), [(lLo, lHi), ((-1), (-1))], [])], [])
set_option maxRecDepth 100000 in
theorem tA7 : vC tS tRA jM 2 tA7c := chkF_ok (D := 1) (hst := jM_st (by decide +kernel)) (T := [tA1c, tA4c, tA5c]) (N := []) (sp := []) (fu := 37) (fa_cons (vUq tA1 (by decide)) (fa_cons (vUq tA4 (by decide)) (fa_cons (vUq tA5 (by decide)) (fa_nil)))) (by decide +kernel)
/-- X12_has -/
def tA8c : aCt := (156, [aI 0 0, aI 0 0], [], [(some (aI 0 0), [(0, 0), (0, 0)], [])], [])
set_option maxRecDepth 100000 in
theorem tA8 : vC tS tRA jM 1 tA8c := chkF_ok (D := 0) (hst := jM_st (by decide +kernel)) (T := []) (N := []) (sp := []) (fu := 16) (fa_nil) (by decide +kernel)
/-- X12_leastOf -/
def tA9c : aCt := (183, [aI 112 112, aI 0 0], [], [(some (aI 0 0), [(112, 112), (0, 0)], [])], [])
set_option maxRecDepth 100000 in
theorem tA9 : vC tS tRA jM 1 tA9c := chkF_ok (D := 0) (hst := jM_st (by decide +kernel)) (T := []) (N := []) (sp := []) (fu := 15) (fa_nil) (by decide +kernel)
/-- X12_mostOf -/
def tA10c : aCt := (182, [aI 112 112, aI 0 0], [], [(some (aI 7 7), [(112, 112), (0, 0)], [])], [])
set_option maxRecDepth 100000 in
theorem tA10 : vC tS tRA jM 1 tA10c := chkF_ok (D := 0) (hst := jM_st (by decide +kernel)) (T := []) (N := []) (sp := []) (fu := 18) (fa_nil) (by decide +kernel)
/-- X12_here -/
def tA11c : aCt := (179, [aR [314]], [zka_y1], [(some (aI (-1) (-1)), [(lLo, lHi)], []), (some (aI 0 255), [(lLo, lHi)], [zka_y2])], [])
set_option maxRecDepth 100000 in
theorem tA11 : vC tS tRA jM 1 tA11c := chkF_ok (D := 0) (hst := jM_st (by decide +kernel)) (T := []) (N := []) (sp := []) (fu := 24) (fa_nil) (by decide +kernel)
/-- X12_isIn -/
def tA12c : aCt := (155, [aLt, aL 0 0, aL 7 7], [], [(some (aI 1 1), [(0, 7), (lLo, lHi), (lLo, lHi)], []), (some (aI 0 0), zka_l3, [])], [])
theorem tA12 : vC tS tRA jM 1 tA12c := isin_ok (0) (0) (7) (7)
/-- X12_number -/
def tA13c : aCt := (181, [aR [314], aI 0 0, aI 7 7], zka_q0, [(some (aI 0 0), [(lLo, lHi), (0, 0), (7, 7)], [zka_y0]), (some (aI (-539) 2277), [(lLo, lHi), (0, 0), (7, 7)], [zka_y0]), (some (aI 0 7), [(lLo, lHi), (0, 0), (7, 7)], zka_q1)], [(314, 10, 12)])
set_option maxRecDepth 100000 in
theorem tA13 : vC tS tRA jM 10 tA13c := chkF_ok (D := 9) (hst := jM_st (by decide +kernel)) (T := [(fA0c 0), (fA10c 0), tA11c, tA0c, tA12c]) (N := []) (sp := []) (fu := 63) (fa_cons (vUq (fA0 0) (by decide)) (fa_cons (vUq (fA10 0) (by decide)) (fa_cons (vUq tA11 (by decide)) (fa_cons (vUq tA0 (by decide)) (fa_cons (vUq tA12 (by decide)) (fa_nil)))))) (by decide +kernel)
/-- X12_has -/
def tA14c : aCt := (156, [aI 0 0, aI 1 1], [], [(some (aI 0 0), [(0, 0), (1, 1)], [])], [])
set_option maxRecDepth 100000 in
theorem tA14 : vC tS tRA jM 1 tA14c := chkF_ok (D := 0) (hst := jM_st (by decide +kernel)) (T := []) (N := []) (sp := []) (fu := 16) (fa_nil) (by decide +kernel)
/-- X12_leastOf -/
def tA15c : aCt := (183, [aI 112 112, aI 1 1], [], [(some (aI 0 0), [(112, 112), (1, 1)], [])], [])
set_option maxRecDepth 100000 in
theorem tA15 : vC tS tRA jM 1 tA15c := chkF_ok (D := 0) (hst := jM_st (by decide +kernel)) (T := []) (N := []) (sp := []) (fu := 15) (fa_nil) (by decide +kernel)
/-- X12_mostOf -/
def tA16c : aCt := (182, [aI 112 112, aI 1 1], [], [(some (aI 9 9), [(112, 112), (1, 1)], [])], [])
set_option maxRecDepth 100000 in
theorem tA16 : vC tS tRA jM 1 tA16c := chkF_ok (D := 0) (hst := jM_st (by decide +kernel)) (T := []) (N := []) (sp := []) (fu := 17) (fa_nil) (by decide +kernel)
/-- X12_isIn -/
def tA17c : aCt := (155, [aLt, aL 0 0, aL 9 9], [], [(some (aI 1 1), [(0, 9), (lLo, lHi), (lLo, lHi)], []), (some (aI 0 0), zka_l3, [])], [])
theorem tA17 : vC tS tRA jM 1 tA17c := isin_ok (0) (0) (9) (9)
/-- X12_number -/
def tA18c : aCt := (181, [aR [314], aI 0 0, aI 9 9], zka_q0, [(some (aI 0 0), [(lLo, lHi), (0, 0), (9, 9)], [zka_y0]), (some (aI (-539) 2277), [(lLo, lHi), (0, 0), (9, 9)], [zka_y0]), (some (aI 0 9), [(lLo, lHi), (0, 0), (9, 9)], zka_q1)], [(314, 10, 12)])
set_option maxRecDepth 100000 in
theorem tA18 : vC tS tRA jM 10 tA18c := chkF_ok (D := 9) (hst := jM_st (by decide +kernel)) (T := [(fA0c 0), (fA10c 0), tA11c, tA0c, tA17c]) (N := []) (sp := []) (fu := 63) (fa_cons (vUq (fA0 0) (by decide)) (fa_cons (vUq (fA10 0) (by decide)) (fa_cons (vUq tA11 (by decide)) (fa_cons (vUq tA0 (by decide)) (fa_cons (vUq tA17 (by decide)) (fa_nil)))))) (by decide +kernel)
/-- X12_has -/
def tA19c : aCt := (156, [aI 1 1, aI 0 0], [], [(some (aI 1 1), [(1, 1), (0, 0)], [])], [])
set_option maxRecDepth 100000 in
theorem tA19 : vC tS tRA jM 1 tA19c := chkF_ok (D := 0) (hst := jM_st (by decide +kernel)) (T := []) (N := []) (sp := []) (fu := 17) (fa_nil) (by decide +kernel)
/-- X12_has -/
def tA20c : aCt := (156, [aI 1 1, aI 1 1], [], [(some (aI 0 0), [(1, 1), (1, 1)], [])], [])
set_option maxRecDepth 100000 in
theorem tA20 : vC tS tRA jM 1 tA20c := chkF_ok (D := 0) (hst := jM_st (by decide +kernel)) (T := []) (N := []) (sp := []) (fu := 16) (fa_nil) (by decide +kernel)
/-- X12_has -/
def tA21c : aCt := (156, [aI 2 2, aI 0 0], [], [(some (aI 0 0), [(2, 2), (0, 0)], [])], [])
set_option maxRecDepth 100000 in
theorem tA21 : vC tS tRA jM 1 tA21c := chkF_ok (D := 0) (hst := jM_st (by decide +kernel)) (T := []) (N := []) (sp := []) (fu := 16) (fa_nil) (by decide +kernel)
/-- X12_has -/
def tA22c : aCt := (156, [aI 2 2, aI 1 1], [], [(some (aI 1 1), [(2, 2), (1, 1)], [])], [])
set_option maxRecDepth 100000 in
theorem tA22 : vC tS tRA jM 1 tA22c := chkF_ok (D := 0) (hst := jM_st (by decide +kernel)) (T := []) (N := []) (sp := []) (fu := 17) (fa_nil) (by decide +kernel)
/-- X12_has -/
def tA23c : aCt := (156, [aI 3 3, aI 0 0], [], [(some (aI 1 1), [(3, 3), (0, 0)], [])], [])
set_option maxRecDepth 100000 in
theorem tA23 : vC tS tRA jM 1 tA23c := chkF_ok (D := 0) (hst := jM_st (by decide +kernel)) (T := []) (N := []) (sp := []) (fu := 17) (fa_nil) (by decide +kernel)
/-- X12_has -/
def tA24c : aCt := (156, [aI 3 3, aI 1 1], [], [(some (aI 1 1), [(3, 3), (1, 1)], [])], [])
set_option maxRecDepth 100000 in
theorem tA24 : vC tS tRA jM 1 tA24c := chkF_ok (D := 0) (hst := jM_st (by decide +kernel)) (T := []) (N := []) (sp := []) (fu := 17) (fa_nil) (by decide +kernel)
/-- X12_readItems -/
def tA25c : aCt := (185, [aR [314], aI 112 112, aR [323], aI 0 0, aR [1004]], zka_q0, [(none, zka_l5, ([zka_y3] ++ ([] ++ fkF 1))), (none, zka_l5, [zka_y0])], [(314, 10, 12), (323, 0, 2)])
set_option maxRecDepth 100000 in
theorem tA25 : vC tS tRA jM 11 tA25c := chkF_ok (D := 10) (hst := jM_st (by decide +kernel)) (T := [(fA3c 0), tA1c, tA2c, tA3c, (fA0c 0), tA6c, tA7c, tA8c, tA9c, tA10c, tA13c, tA14c, tA15c, tA16c, tA18c, tA19c, tA0c, tA20c, tA21c, tA22c, tA23c, tA24c]) (N := [(3, [zka_x0, zka_x1, zka_x2, zka_x3, zka_x4, zka_x5], zka_q0, 5, []),
  (3, [zka_x0, zka_x1, zka_x2, zka_x3, zka_x4, zka_x6], [zka_y3, zka_y1, zka_y5], 4, []),
  (3, [zka_x0, zka_x1, zka_x2, zka_x3, zka_x4, zka_x7], zka_q2, 3, []),
  (45, [zka_x0, zka_x1, zka_x2, zka_x3, zka_x4, zka_x5, zka_x8], zka_q3, 2, []),
  (45, [zka_x0, zka_x1, zka_x2, zka_x3, zka_x4, zka_x5, zka_x9], zka_q3, 2, []),
  (45, [zka_x0, zka_x1, zka_x2, zka_x3, zka_x4, zka_x5, zka_x10], zka_q2, 0, []),
  (45, [zka_x0, zka_x1, zka_x2, zka_x3, zka_x4, zka_x6, zka_x8], [zka_y1, zka_y6, zka_y7], 0, []),
  (45, [zka_x0, zka_x1, zka_x2, zka_x3, zka_x4, zka_x6, zka_x9], [zka_y3, zka_y1, zka_y6, zka_y8, zka_y2], 1, []),
  (45, [zka_x0, zka_x1, zka_x2, zka_x3, zka_x4, zka_x6, zka_x10], [zka_y3, zka_y1, zka_y6, zka_y8, zka_y9], 0, []),
  (45, [zka_x0, zka_x1, zka_x2, zka_x3, zka_x4, zka_x7, zka_x8], [zka_y3, zka_y1, zka_y5, zka_y10, zka_y2], 1, []),
  (45, [zka_x0, zka_x1, zka_x2, zka_x3, zka_x4, zka_x7, zka_x9], [zka_y1, zka_y5, zka_y11], 0, []),
  (45, [zka_x0, zka_x1, zka_x2, zka_x3, zka_x4, zka_x7, zka_x10], [zka_y3, zka_y1, zka_y5, zka_y10, zka_y9], 0, []),
  (45, [zka_x0, zka_x1, zka_x2, zka_x3, zka_x4, zka_x11, zka_x8], [zka_y1, zka_y7, zka_y10], 0, []),
  (45, [zka_x0, zka_x1, zka_x2, zka_x3, zka_x4, zka_x11, zka_x9], [zka_y1, zka_y8, zka_y11], 0, []),
  (45, [zka_x0, zka_x1, zka_x2, zka_x3, zka_x4, zka_x11, zka_x10], (zka_q4 ++ ([] ++ fkF 1)), 0, [])]) (sp := [(3, 5), (45, 6)]) (fu := 54) (fa_cons (vUq (fA3 0) (by decide)) (fa_cons (vUq tA1 (by decide)) (fa_cons (vUq tA2 (by decide)) (fa_cons (vUq tA3 (by decide)) (fa_cons (vUq (fA0 0) (by decide)) (fa_cons (vUq tA6 (by decide)) (fa_cons (vUq tA7 (by decide)) (fa_cons (vUq tA8 (by decide)) (fa_cons (vUq tA9 (by decide)) (fa_cons (vUq tA10 (by decide)) (fa_cons (vUq tA13 (by decide)) (fa_cons (vUq tA14 (by decide)) (fa_cons (vUq tA15 (by decide)) (fa_cons (vUq tA16 (by decide)) (fa_cons (vUq tA18 (by decide)) (fa_cons (vUq tA19 (by decide)) (fa_cons (vUq tA0 (by decide)) (fa_cons (vUq tA20 (by decide)) (fa_cons (vUq tA21 (by decide)) (fa_cons (vUq tA22 (by decide)) (fa_cons (vUq tA23 (by decide)) (fa_cons (vUq tA24 (by decide)) (fa_nil))))))))))))))))))))))) (by decide +kernel)
/-- str271 -/
def tA26c : aCt := (271, [aR [1003]], [], [(some (aI 4 4), [(lLo, lHi)], [])], [])
theorem tA26 : vC tS tRA jM 1 tA26c := str_len (x := 3) (n := 4) (by decide +kernel) (by decide +kernel) rfl
/-- X12_usual -/
def tA27c : aCt := (184, [aI 101 101, aI 0 0], [], [(some (aI 0 0), [(101, 101), (0, 0)], [])], [])
set_option maxRecDepth 100000 in
theorem tA27 : vC tS tRA jM 1 tA27c := chkF_ok (D := 0) (hst := jM_st (by decide +kernel)) (T := []) (N := []) (sp := []) (fu := 21) (fa_nil) (by decide +kernel)
/-- X12_usual -/
def tA28c : aCt := (184, [aI 101 101, aI 1 1], [], [(some (aI 1 1), [(101, 101), (1, 1)], [])], [])
set_option maxRecDepth 100000 in
theorem tA28 : vC tS tRA jM 1 tA28c := chkF_ok (D := 0) (hst := jM_st (by decide +kernel)) (T := []) (N := []) (sp := []) (fu := 19) (fa_nil) (by decide +kernel)
/-- X12_usual -/
def tA29c : aCt := (184, [aI 101 101, aI 2 2], [], [(some (aI 5 5), [(101, 101), (2, 2)], [])], [])
set_option maxRecDepth 100000 in
theorem tA29 : vC tS tRA jM 1 tA29c := chkF_ok (D := 0) (hst := jM_st (by decide +kernel)) (T := []) (N := []) (sp := []) (fu := 22) (fa_nil) (by decide +kernel)
/-- X12_usual -/
def tA30c : aCt := (184, [aI 101 101, aI 3 3], [], [(some (aI 0 0), [(101, 101), (3, 3)], [])], [])
set_option maxRecDepth 100000 in
theorem tA30 : vC tS tRA jM 1 tA30c := chkF_ok (D := 0) (hst := jM_st (by decide +kernel)) (T := []) (N := []) (sp := []) (fu := 21) (fa_nil) (by decide +kernel)
/-- str272 -/
def tA31c : aCt := (272, [aR [1003], aI 0 0], [], [(some (aI 97 97), zka_l2, [])], [])
theorem tA31 : vC tS tRA jM 1 tA31c := str_at (x := 3) (n := 4) (i0 := 0) (i1 := 0) (by decide +kernel) (by decide) (by decide) (rng_of (by decide +kernel))
/-- str272 -/
def tA32c : aCt := (272, [aR [1003], aI 1 1], [], [(some (aI 98 98), zka_l2, [])], [])
theorem tA32 : vC tS tRA jM 1 tA32c := str_at (x := 3) (n := 4) (i0 := 1) (i1 := 1) (by decide +kernel) (by decide) (by decide) (rng_of (by decide +kernel))
/-- str272 -/
def tA33c : aCt := (272, [aR [1003], aI 2 2], [], [(some (aI 121 121), zka_l2, [])], [])
theorem tA33 : vC tS tRA jM 1 tA33c := str_at (x := 3) (n := 4) (i0 := 2) (i1 := 2) (by decide +kernel) (by decide) (by decide) (rng_of (by decide +kernel))
/-- str272 -/
def tA34c : aCt := (272, [aR [1003], aI 3 3], [], [(some (aI 119 119), zka_l2, [])], [])
theorem tA34 : vC tS tRA jM 1 tA34c := str_at (x := 3) (n := 4) (i0 := 3) (i1 := 3) (by decide +kernel) (by decide) (by decide) (rng_of (by decide +kernel))
/-- X12_spotOf -/
def tA35c : aCt := (180, [aR [1003], aI 0 255], [], [(some (aI (-1) (-1)), [(lLo, lHi), (0, 255)], []), (some (aI 2 3), [(lLo, lHi), (119, 121)], []), (some (aI 1 1), [(lLo, lHi), (98, 98)], []), (some (aI 0 0), [(lLo, lHi), (97, 97)], [])], [])
set_option maxRecDepth 100000 in
theorem tA35 : vC tS tRA jM 2 tA35c := chkF_ok (D := 1) (hst := jM_st (by decide +kernel)) (T := [tA26c, tA31c, tA32c, tA33c, tA34c]) (N := []) (sp := []) (fu := 59) (fa_cons (vUq tA26 (by decide)) (fa_cons (vUq tA31 (by decide)) (fa_cons (vUq tA32 (by decide)) (fa_cons (vUq tA33 (by decide)) (fa_cons (vUq tA34 (by decide)) (fa_nil)))))) (by decide +kernel)
/-- X12_spotOf -/
def tA36c : aCt := (180, [aR [1003], aI (-1) (-1)], [], [(some (aI (-1) (-1)), [(lLo, lHi), ((-1), (-1))], [])], [])
set_option maxRecDepth 100000 in
theorem tA36 : vC tS tRA jM 2 tA36c := chkF_ok (D := 1) (hst := jM_st (by decide +kernel)) (T := [tA26c, tA31c, tA32c, tA33c, tA34c]) (N := []) (sp := []) (fu := 59) (fa_cons (vUq tA26 (by decide)) (fa_cons (vUq tA31 (by decide)) (fa_cons (vUq tA32 (by decide)) (fa_cons (vUq tA33 (by decide)) (fa_cons (vUq tA34 (by decide)) (fa_nil)))))) (by decide +kernel)
/-- X12_leastOf -/
def tA37c : aCt := (183, [aI 101 101, aI 0 0], [], [(some (aI 0 0), [(101, 101), (0, 0)], [])], [])
set_option maxRecDepth 100000 in
theorem tA37 : vC tS tRA jM 1 tA37c := chkF_ok (D := 0) (hst := jM_st (by decide +kernel)) (T := []) (N := []) (sp := []) (fu := 18) (fa_nil) (by decide +kernel)
/-- X12_mostOf -/
def tA38c : aCt := (182, [aI 101 101, aI 0 0], [], [(some (aI 7 7), [(101, 101), (0, 0)], [])], [])
set_option maxRecDepth 100000 in
theorem tA38 : vC tS tRA jM 1 tA38c := chkF_ok (D := 0) (hst := jM_st (by decide +kernel)) (T := []) (N := []) (sp := []) (fu := 19) (fa_nil) (by decide +kernel)
/-- X12_leastOf -/
def tA39c : aCt := (183, [aI 101 101, aI 1 1], [], [(some (aI 0 0), [(101, 101), (1, 1)], [])], [])
set_option maxRecDepth 100000 in
theorem tA39 : vC tS tRA jM 1 tA39c := chkF_ok (D := 0) (hst := jM_st (by decide +kernel)) (T := []) (N := []) (sp := []) (fu := 18) (fa_nil) (by decide +kernel)
/-- X12_mostOf -/
def tA40c : aCt := (182, [aI 101 101, aI 1 1], [], [(some (aI 7 7), [(101, 101), (1, 1)], [])], [])
set_option maxRecDepth 100000 in
theorem tA40 : vC tS tRA jM 1 tA40c := chkF_ok (D := 0) (hst := jM_st (by decide +kernel)) (T := []) (N := []) (sp := []) (fu := 19) (fa_nil) (by decide +kernel)
/-- X12_has -/
def tA41c : aCt := (156, [aI 0 0, aI 2 2], [], [(some (aI 0 0), [(0, 0), (2, 2)], [])], [])
set_option maxRecDepth 100000 in
theorem tA41 : vC tS tRA jM 1 tA41c := chkF_ok (D := 0) (hst := jM_st (by decide +kernel)) (T := []) (N := []) (sp := []) (fu := 16) (fa_nil) (by decide +kernel)
/-- X12_leastOf -/
def tA42c : aCt := (183, [aI 101 101, aI 2 2], [], [(some (aI 1 1), [(101, 101), (2, 2)], [])], [])
set_option maxRecDepth 100000 in
theorem tA42 : vC tS tRA jM 1 tA42c := chkF_ok (D := 0) (hst := jM_st (by decide +kernel)) (T := []) (N := []) (sp := []) (fu := 19) (fa_nil) (by decide +kernel)
/-- X12_mostOf -/
def tA43c : aCt := (182, [aI 101 101, aI 2 2], [], [(some (aI 40 40), [(101, 101), (2, 2)], [])], [])
set_option maxRecDepth 100000 in
theorem tA43 : vC tS tRA jM 1 tA43c := chkF_ok (D := 0) (hst := jM_st (by decide +kernel)) (T := []) (N := []) (sp := []) (fu := 22) (fa_nil) (by decide +kernel)
/-- X12_isIn -/
def tA44c : aCt := (155, [aLt, aL 1 1, aL 40 40], [], [(some (aI 1 1), [(1, 40), (lLo, lHi), (lLo, lHi)], []), (some (aI 0 0), zka_l3, [])], [])
theorem tA44 : vC tS tRA jM 1 tA44c := isin_ok (1) (1) (40) (40)
/-- X12_number -/
def tA45c : aCt := (181, [aR [314], aI 1 1, aI 40 40], zka_q0, [(some (aI 0 0), [(lLo, lHi), (1, 1), (40, 40)], [zka_y0]), (some (aI (-539) 2277), [(lLo, lHi), (1, 1), (40, 40)], [zka_y0]), (some (aI 1 40), [(lLo, lHi), (1, 1), (40, 40)], zka_q1)], [(314, 10, 12)])
set_option maxRecDepth 100000 in
theorem tA45 : vC tS tRA jM 10 tA45c := chkF_ok (D := 9) (hst := jM_st (by decide +kernel)) (T := [(fA0c 0), (fA10c 0), tA11c, tA0c, tA44c]) (N := []) (sp := []) (fu := 63) (fa_cons (vUq (fA0 0) (by decide)) (fa_cons (vUq (fA10 0) (by decide)) (fa_cons (vUq tA11 (by decide)) (fa_cons (vUq tA0 (by decide)) (fa_cons (vUq tA44 (by decide)) (fa_nil)))))) (by decide +kernel)
/-- X12_has -/
def tA46c : aCt := (156, [aI 0 0, aI 3 3], [], [(some (aI 0 0), [(0, 0), (3, 3)], [])], [])
set_option maxRecDepth 100000 in
theorem tA46 : vC tS tRA jM 1 tA46c := chkF_ok (D := 0) (hst := jM_st (by decide +kernel)) (T := []) (N := []) (sp := []) (fu := 16) (fa_nil) (by decide +kernel)
/-- X12_leastOf -/
def tA47c : aCt := (183, [aI 101 101, aI 3 3], [], [(some (aI 0 0), [(101, 101), (3, 3)], [])], [])
set_option maxRecDepth 100000 in
theorem tA47 : vC tS tRA jM 1 tA47c := chkF_ok (D := 0) (hst := jM_st (by decide +kernel)) (T := []) (N := []) (sp := []) (fu := 18) (fa_nil) (by decide +kernel)
/-- X12_mostOf -/
def tA48c : aCt := (182, [aI 101 101, aI 3 3], [], [(some (aI 1 1), [(101, 101), (3, 3)], [])], [])
set_option maxRecDepth 100000 in
theorem tA48 : vC tS tRA jM 1 tA48c := chkF_ok (D := 0) (hst := jM_st (by decide +kernel)) (T := []) (N := []) (sp := []) (fu := 21) (fa_nil) (by decide +kernel)
/-- X12_isIn -/
def tA49c : aCt := (155, [aLt, aL 0 0, aL 1 1], [], [(some (aI 1 1), [(0, 1), (lLo, lHi), (lLo, lHi)], []), (some (aI 0 0), zka_l3, [])], [])
theorem tA49 : vC tS tRA jM 1 tA49c := isin_ok (0) (0) (1) (1)
/-- X12_number -/
def tA50c : aCt := (181, [aR [314], aI 0 0, aI 1 1], zka_q0, [(some (aI 0 0), [(lLo, lHi), (0, 0), (1, 1)], [zka_y0]), (some (aI (-539) 2277), [(lLo, lHi), (0, 0), (1, 1)], [zka_y0]), (some (aI 0 1), [(lLo, lHi), (0, 0), (1, 1)], zka_q1)], [(314, 10, 12)])
set_option maxRecDepth 100000 in
theorem tA50 : vC tS tRA jM 10 tA50c := chkF_ok (D := 9) (hst := jM_st (by decide +kernel)) (T := [(fA0c 0), (fA10c 0), tA11c, tA0c, tA49c]) (N := []) (sp := []) (fu := 63) (fa_cons (vUq (fA0 0) (by decide)) (fa_cons (vUq (fA10 0) (by decide)) (fa_cons (vUq tA11 (by decide)) (fa_cons (vUq tA0 (by decide)) (fa_cons (vUq tA49 (by decide)) (fa_nil)))))) (by decide +kernel)
/-- X12_has -/
def tA51c : aCt := (156, [aI 1 1, aI 2 2], [], [(some (aI 0 0), [(1, 1), (2, 2)], [])], [])
set_option maxRecDepth 100000 in
theorem tA51 : vC tS tRA jM 1 tA51c := chkF_ok (D := 0) (hst := jM_st (by decide +kernel)) (T := []) (N := []) (sp := []) (fu := 16) (fa_nil) (by decide +kernel)
/-- X12_has -/
def tA52c : aCt := (156, [aI 1 1, aI 3 3], [], [(some (aI 0 0), [(1, 1), (3, 3)], [])], [])
set_option maxRecDepth 100000 in
theorem tA52 : vC tS tRA jM 1 tA52c := chkF_ok (D := 0) (hst := jM_st (by decide +kernel)) (T := []) (N := []) (sp := []) (fu := 16) (fa_nil) (by decide +kernel)
/-- X12_has -/
def tA53c : aCt := (156, [aI 2 2, aI 2 2], [], [(some (aI 0 0), [(2, 2), (2, 2)], [])], [])
set_option maxRecDepth 100000 in
theorem tA53 : vC tS tRA jM 1 tA53c := chkF_ok (D := 0) (hst := jM_st (by decide +kernel)) (T := []) (N := []) (sp := []) (fu := 16) (fa_nil) (by decide +kernel)
/-- X12_has -/
def tA54c : aCt := (156, [aI 2 2, aI 3 3], [], [(some (aI 0 0), [(2, 2), (3, 3)], [])], [])
set_option maxRecDepth 100000 in
theorem tA54 : vC tS tRA jM 1 tA54c := chkF_ok (D := 0) (hst := jM_st (by decide +kernel)) (T := []) (N := []) (sp := []) (fu := 16) (fa_nil) (by decide +kernel)
/-- X12_has -/
def tA55c : aCt := (156, [aI 4 4, aI 0 0], [], [(some (aI 0 0), [(4, 4), (0, 0)], [])], [])
set_option maxRecDepth 100000 in
theorem tA55 : vC tS tRA jM 1 tA55c := chkF_ok (D := 0) (hst := jM_st (by decide +kernel)) (T := []) (N := []) (sp := []) (fu := 16) (fa_nil) (by decide +kernel)
/-- X12_has -/
def tA56c : aCt := (156, [aI 4 4, aI 1 1], [], [(some (aI 0 0), [(4, 4), (1, 1)], [])], [])
set_option maxRecDepth 100000 in
theorem tA56 : vC tS tRA jM 1 tA56c := chkF_ok (D := 0) (hst := jM_st (by decide +kernel)) (T := []) (N := []) (sp := []) (fu := 16) (fa_nil) (by decide +kernel)
/-- X12_has -/
def tA57c : aCt := (156, [aI 4 4, aI 2 2], [], [(some (aI 1 1), [(4, 4), (2, 2)], [])], [])
set_option maxRecDepth 100000 in
theorem tA57 : vC tS tRA jM 1 tA57c := chkF_ok (D := 0) (hst := jM_st (by decide +kernel)) (T := []) (N := []) (sp := []) (fu := 17) (fa_nil) (by decide +kernel)
/-- X12_has -/
def tA58c : aCt := (156, [aI 4 4, aI 3 3], [], [(some (aI 0 0), [(4, 4), (3, 3)], [])], [])
set_option maxRecDepth 100000 in
theorem tA58 : vC tS tRA jM 1 tA58c := chkF_ok (D := 0) (hst := jM_st (by decide +kernel)) (T := []) (N := []) (sp := []) (fu := 16) (fa_nil) (by decide +kernel)
/-- X12_has -/
def tA59c : aCt := (156, [aI 8 8, aI 0 0], [], [(some (aI 0 0), [(8, 8), (0, 0)], [])], [])
set_option maxRecDepth 100000 in
theorem tA59 : vC tS tRA jM 1 tA59c := chkF_ok (D := 0) (hst := jM_st (by decide +kernel)) (T := []) (N := []) (sp := []) (fu := 16) (fa_nil) (by decide +kernel)
/-- X12_has -/
def tA60c : aCt := (156, [aI 8 8, aI 1 1], [], [(some (aI 0 0), [(8, 8), (1, 1)], [])], [])
set_option maxRecDepth 100000 in
theorem tA60 : vC tS tRA jM 1 tA60c := chkF_ok (D := 0) (hst := jM_st (by decide +kernel)) (T := []) (N := []) (sp := []) (fu := 16) (fa_nil) (by decide +kernel)
/-- X12_has -/
def tA61c : aCt := (156, [aI 8 8, aI 2 2], [], [(some (aI 0 0), [(8, 8), (2, 2)], [])], [])
set_option maxRecDepth 100000 in
theorem tA61 : vC tS tRA jM 1 tA61c := chkF_ok (D := 0) (hst := jM_st (by decide +kernel)) (T := []) (N := []) (sp := []) (fu := 16) (fa_nil) (by decide +kernel)
/-- X12_has -/
def tA62c : aCt := (156, [aI 8 8, aI 3 3], [], [(some (aI 1 1), [(8, 8), (3, 3)], [])], [])
set_option maxRecDepth 100000 in
theorem tA62 : vC tS tRA jM 1 tA62c := chkF_ok (D := 0) (hst := jM_st (by decide +kernel)) (T := []) (N := []) (sp := []) (fu := 17) (fa_nil) (by decide +kernel)
/-- X12_has -/
def tA63c : aCt := (156, [aI 3 3, aI 2 2], [], [(some (aI 0 0), [(3, 3), (2, 2)], [])], [])
set_option maxRecDepth 100000 in
theorem tA63 : vC tS tRA jM 1 tA63c := chkF_ok (D := 0) (hst := jM_st (by decide +kernel)) (T := []) (N := []) (sp := []) (fu := 16) (fa_nil) (by decide +kernel)
/-- X12_has -/
def tA64c : aCt := (156, [aI 3 3, aI 3 3], [], [(some (aI 0 0), [(3, 3), (3, 3)], [])], [])
set_option maxRecDepth 100000 in
theorem tA64 : vC tS tRA jM 1 tA64c := chkF_ok (D := 0) (hst := jM_st (by decide +kernel)) (T := []) (N := []) (sp := []) (fu := 16) (fa_nil) (by decide +kernel)
/-- X12_has -/
def tA65c : aCt := (156, [aI 5 5, aI 0 0], [], [(some (aI 1 1), [(5, 5), (0, 0)], [])], [])
set_option maxRecDepth 100000 in
theorem tA65 : vC tS tRA jM 1 tA65c := chkF_ok (D := 0) (hst := jM_st (by decide +kernel)) (T := []) (N := []) (sp := []) (fu := 17) (fa_nil) (by decide +kernel)
/-- X12_has -/
def tA66c : aCt := (156, [aI 5 5, aI 1 1], [], [(some (aI 0 0), [(5, 5), (1, 1)], [])], [])
set_option maxRecDepth 100000 in
theorem tA66 : vC tS tRA jM 1 tA66c := chkF_ok (D := 0) (hst := jM_st (by decide +kernel)) (T := []) (N := []) (sp := []) (fu := 16) (fa_nil) (by decide +kernel)
/-- X12_has -/
def tA67c : aCt := (156, [aI 5 5, aI 2 2], [], [(some (aI 1 1), [(5, 5), (2, 2)], [])], [])
set_option maxRecDepth 100000 in
theorem tA67 : vC tS tRA jM 1 tA67c := chkF_ok (D := 0) (hst := jM_st (by decide +kernel)) (T := []) (N := []) (sp := []) (fu := 17) (fa_nil) (by decide +kernel)
/-- X12_has -/
def tA68c : aCt := (156, [aI 5 5, aI 3 3], [], [(some (aI 0 0), [(5, 5), (3, 3)], [])], [])
set_option maxRecDepth 100000 in
theorem tA68 : vC tS tRA jM 1 tA68c := chkF_ok (D := 0) (hst := jM_st (by decide +kernel)) (T := []) (N := []) (sp := []) (fu := 16) (fa_nil) (by decide +kernel)
/-- X12_has -/
def tA69c : aCt := (156, [aI 9 9, aI 0 0], [], [(some (aI 1 1), [(9, 9), (0, 0)], [])], [])
set_option maxRecDepth 100000 in
theorem tA69 : vC tS tRA jM 1 tA69c := chkF_ok (D := 0) (hst := jM_st (by decide +kernel)) (T := []) (N := []) (sp := []) (fu := 17) (fa_nil) (by decide +kernel)
/-- X12_has -/
def tA70c : aCt := (156, [aI 9 9, aI 1 1], [], [(some (aI 0 0), [(9, 9), (1, 1)], [])], [])
set_option maxRecDepth 100000 in
theorem tA70 : vC tS tRA jM 1 tA70c := chkF_ok (D := 0) (hst := jM_st (by decide +kernel)) (T := []) (N := []) (sp := []) (fu := 16) (fa_nil) (by decide +kernel)
/-- X12_has -/
def tA71c : aCt := (156, [aI 9 9, aI 2 2], [], [(some (aI 0 0), [(9, 9), (2, 2)], [])], [])
set_option maxRecDepth 100000 in
theorem tA71 : vC tS tRA jM 1 tA71c := chkF_ok (D := 0) (hst := jM_st (by decide +kernel)) (T := []) (N := []) (sp := []) (fu := 16) (fa_nil) (by decide +kernel)
/-- X12_has -/
def tA72c : aCt := (156, [aI 9 9, aI 3 3], [], [(some (aI 1 1), [(9, 9), (3, 3)], [])], [])
set_option maxRecDepth 100000 in
theorem tA72 : vC tS tRA jM 1 tA72c := chkF_ok (D := 0) (hst := jM_st (by decide +kernel)) (T := []) (N := []) (sp := []) (fu := 17) (fa_nil) (by decide +kernel)
/-- X12_has -/
def tA73c : aCt := (156, [aI 6 6, aI 0 0], [], [(some (aI 0 0), [(6, 6), (0, 0)], [])], [])
set_option maxRecDepth 100000 in
theorem tA73 : vC tS tRA jM 1 tA73c := chkF_ok (D := 0) (hst := jM_st (by decide +kernel)) (T := []) (N := []) (sp := []) (fu := 16) (fa_nil) (by decide +kernel)
/-- X12_has -/
def tA74c : aCt := (156, [aI 6 6, aI 1 1], [], [(some (aI 1 1), [(6, 6), (1, 1)], [])], [])
set_option maxRecDepth 100000 in
theorem tA74 : vC tS tRA jM 1 tA74c := chkF_ok (D := 0) (hst := jM_st (by decide +kernel)) (T := []) (N := []) (sp := []) (fu := 17) (fa_nil) (by decide +kernel)
/-- X12_has -/
def tA75c : aCt := (156, [aI 6 6, aI 2 2], [], [(some (aI 1 1), [(6, 6), (2, 2)], [])], [])
set_option maxRecDepth 100000 in
theorem tA75 : vC tS tRA jM 1 tA75c := chkF_ok (D := 0) (hst := jM_st (by decide +kernel)) (T := []) (N := []) (sp := []) (fu := 17) (fa_nil) (by decide +kernel)
/-- X12_has -/
def tA76c : aCt := (156, [aI 6 6, aI 3 3], [], [(some (aI 0 0), [(6, 6), (3, 3)], [])], [])
set_option maxRecDepth 100000 in
theorem tA76 : vC tS tRA jM 1 tA76c := chkF_ok (D := 0) (hst := jM_st (by decide +kernel)) (T := []) (N := []) (sp := []) (fu := 16) (fa_nil) (by decide +kernel)
/-- X12_has -/
def tA77c : aCt := (156, [aI 10 10, aI 0 0], [], [(some (aI 0 0), [(10, 10), (0, 0)], [])], [])
set_option maxRecDepth 100000 in
theorem tA77 : vC tS tRA jM 1 tA77c := chkF_ok (D := 0) (hst := jM_st (by decide +kernel)) (T := []) (N := []) (sp := []) (fu := 16) (fa_nil) (by decide +kernel)
/-- X12_has -/
def tA78c : aCt := (156, [aI 10 10, aI 1 1], [], [(some (aI 1 1), [(10, 10), (1, 1)], [])], [])
set_option maxRecDepth 100000 in
theorem tA78 : vC tS tRA jM 1 tA78c := chkF_ok (D := 0) (hst := jM_st (by decide +kernel)) (T := []) (N := []) (sp := []) (fu := 17) (fa_nil) (by decide +kernel)
/-- X12_has -/
def tA79c : aCt := (156, [aI 10 10, aI 2 2], [], [(some (aI 0 0), [(10, 10), (2, 2)], [])], [])
set_option maxRecDepth 100000 in
theorem tA79 : vC tS tRA jM 1 tA79c := chkF_ok (D := 0) (hst := jM_st (by decide +kernel)) (T := []) (N := []) (sp := []) (fu := 16) (fa_nil) (by decide +kernel)
/-- X12_has -/
def tA80c : aCt := (156, [aI 10 10, aI 3 3], [], [(some (aI 1 1), [(10, 10), (3, 3)], [])], [])
set_option maxRecDepth 100000 in
theorem tA80 : vC tS tRA jM 1 tA80c := chkF_ok (D := 0) (hst := jM_st (by decide +kernel)) (T := []) (N := []) (sp := []) (fu := 17) (fa_nil) (by decide +kernel)
/-- X12_has -/
def tA81c : aCt := (156, [aI 12 12, aI 0 0], [], [(some (aI 0 0), [(12, 12), (0, 0)], [])], [])
set_option maxRecDepth 100000 in
theorem tA81 : vC tS tRA jM 1 tA81c := chkF_ok (D := 0) (hst := jM_st (by decide +kernel)) (T := []) (N := []) (sp := []) (fu := 16) (fa_nil) (by decide +kernel)
/-- X12_has -/
def tA82c : aCt := (156, [aI 12 12, aI 1 1], [], [(some (aI 0 0), [(12, 12), (1, 1)], [])], [])
set_option maxRecDepth 100000 in
theorem tA82 : vC tS tRA jM 1 tA82c := chkF_ok (D := 0) (hst := jM_st (by decide +kernel)) (T := []) (N := []) (sp := []) (fu := 16) (fa_nil) (by decide +kernel)
/-- X12_has -/
def tA83c : aCt := (156, [aI 12 12, aI 2 2], [], [(some (aI 1 1), [(12, 12), (2, 2)], [])], [])
set_option maxRecDepth 100000 in
theorem tA83 : vC tS tRA jM 1 tA83c := chkF_ok (D := 0) (hst := jM_st (by decide +kernel)) (T := []) (N := []) (sp := []) (fu := 17) (fa_nil) (by decide +kernel)
/-- X12_has -/
def tA84c : aCt := (156, [aI 12 12, aI 3 3], [], [(some (aI 1 1), [(12, 12), (3, 3)], [])], [])
set_option maxRecDepth 100000 in
theorem tA84 : vC tS tRA jM 1 tA84c := chkF_ok (D := 0) (hst := jM_st (by decide +kernel)) (T := []) (N := []) (sp := []) (fu := 17) (fa_nil) (by decide +kernel)
/-- X12_has -/
def tA85c : aCt := (156, [aI 7 7, aI 0 0], [], [(some (aI 1 1), [(7, 7), (0, 0)], [])], [])
set_option maxRecDepth 100000 in
theorem tA85 : vC tS tRA jM 1 tA85c := chkF_ok (D := 0) (hst := jM_st (by decide +kernel)) (T := []) (N := []) (sp := []) (fu := 17) (fa_nil) (by decide +kernel)
/-- X12_has -/
def tA86c : aCt := (156, [aI 7 7, aI 1 1], [], [(some (aI 1 1), [(7, 7), (1, 1)], [])], [])
set_option maxRecDepth 100000 in
theorem tA86 : vC tS tRA jM 1 tA86c := chkF_ok (D := 0) (hst := jM_st (by decide +kernel)) (T := []) (N := []) (sp := []) (fu := 17) (fa_nil) (by decide +kernel)
/-- X12_has -/
def tA87c : aCt := (156, [aI 7 7, aI 2 2], [], [(some (aI 1 1), [(7, 7), (2, 2)], [])], [])
set_option maxRecDepth 100000 in
theorem tA87 : vC tS tRA jM 1 tA87c := chkF_ok (D := 0) (hst := jM_st (by decide +kernel)) (T := []) (N := []) (sp := []) (fu := 17) (fa_nil) (by decide +kernel)
/-- X12_has -/
def tA88c : aCt := (156, [aI 7 7, aI 3 3], [], [(some (aI 0 0), [(7, 7), (3, 3)], [])], [])
set_option maxRecDepth 100000 in
theorem tA88 : vC tS tRA jM 1 tA88c := chkF_ok (D := 0) (hst := jM_st (by decide +kernel)) (T := []) (N := []) (sp := []) (fu := 16) (fa_nil) (by decide +kernel)
/-- X12_has -/
def tA89c : aCt := (156, [aI 11 11, aI 0 0], [], [(some (aI 1 1), [(11, 11), (0, 0)], [])], [])
set_option maxRecDepth 100000 in
theorem tA89 : vC tS tRA jM 1 tA89c := chkF_ok (D := 0) (hst := jM_st (by decide +kernel)) (T := []) (N := []) (sp := []) (fu := 17) (fa_nil) (by decide +kernel)
/-- X12_has -/
def tA90c : aCt := (156, [aI 11 11, aI 1 1], [], [(some (aI 1 1), [(11, 11), (1, 1)], [])], [])
set_option maxRecDepth 100000 in
theorem tA90 : vC tS tRA jM 1 tA90c := chkF_ok (D := 0) (hst := jM_st (by decide +kernel)) (T := []) (N := []) (sp := []) (fu := 17) (fa_nil) (by decide +kernel)
/-- X12_has -/
def tA91c : aCt := (156, [aI 11 11, aI 2 2], [], [(some (aI 0 0), [(11, 11), (2, 2)], [])], [])
set_option maxRecDepth 100000 in
theorem tA91 : vC tS tRA jM 1 tA91c := chkF_ok (D := 0) (hst := jM_st (by decide +kernel)) (T := []) (N := []) (sp := []) (fu := 16) (fa_nil) (by decide +kernel)
/-- X12_has -/
def tA92c : aCt := (156, [aI 11 11, aI 3 3], [], [(some (aI 1 1), [(11, 11), (3, 3)], [])], [])
set_option maxRecDepth 100000 in
theorem tA92 : vC tS tRA jM 1 tA92c := chkF_ok (D := 0) (hst := jM_st (by decide +kernel)) (T := []) (N := []) (sp := []) (fu := 17) (fa_nil) (by decide +kernel)
/-- X12_has -/
def tA93c : aCt := (156, [aI 13 13, aI 0 0], [], [(some (aI 1 1), [(13, 13), (0, 0)], [])], [])
set_option maxRecDepth 100000 in
theorem tA93 : vC tS tRA jM 1 tA93c := chkF_ok (D := 0) (hst := jM_st (by decide +kernel)) (T := []) (N := []) (sp := []) (fu := 17) (fa_nil) (by decide +kernel)
/-- X12_has -/
def tA94c : aCt := (156, [aI 13 13, aI 1 1], [], [(some (aI 0 0), [(13, 13), (1, 1)], [])], [])
set_option maxRecDepth 100000 in
theorem tA94 : vC tS tRA jM 1 tA94c := chkF_ok (D := 0) (hst := jM_st (by decide +kernel)) (T := []) (N := []) (sp := []) (fu := 16) (fa_nil) (by decide +kernel)
/-- X12_has -/
def tA95c : aCt := (156, [aI 13 13, aI 2 2], [], [(some (aI 1 1), [(13, 13), (2, 2)], [])], [])
set_option maxRecDepth 100000 in
theorem tA95 : vC tS tRA jM 1 tA95c := chkF_ok (D := 0) (hst := jM_st (by decide +kernel)) (T := []) (N := []) (sp := []) (fu := 17) (fa_nil) (by decide +kernel)
/-- X12_has -/
def tA96c : aCt := (156, [aI 13 13, aI 3 3], [], [(some (aI 1 1), [(13, 13), (3, 3)], [])], [])
set_option maxRecDepth 100000 in
theorem tA96 : vC tS tRA jM 1 tA96c := chkF_ok (D := 0) (hst := jM_st (by decide +kernel)) (T := []) (N := []) (sp := []) (fu := 17) (fa_nil) (by decide +kernel)
/-- X12_has -/
def tA97c : aCt := (156, [aI 14 14, aI 0 0], [], [(some (aI 0 0), [(14, 14), (0, 0)], [])], [])
set_option maxRecDepth 100000 in
theorem tA97 : vC tS tRA jM 1 tA97c := chkF_ok (D := 0) (hst := jM_st (by decide +kernel)) (T := []) (N := []) (sp := []) (fu := 16) (fa_nil) (by decide +kernel)
/-- X12_has -/
def tA98c : aCt := (156, [aI 14 14, aI 1 1], [], [(some (aI 1 1), [(14, 14), (1, 1)], [])], [])
set_option maxRecDepth 100000 in
theorem tA98 : vC tS tRA jM 1 tA98c := chkF_ok (D := 0) (hst := jM_st (by decide +kernel)) (T := []) (N := []) (sp := []) (fu := 17) (fa_nil) (by decide +kernel)
/-- X12_has -/
def tA99c : aCt := (156, [aI 14 14, aI 2 2], [], [(some (aI 1 1), [(14, 14), (2, 2)], [])], [])
set_option maxRecDepth 100000 in
theorem tA99 : vC tS tRA jM 1 tA99c := chkF_ok (D := 0) (hst := jM_st (by decide +kernel)) (T := []) (N := []) (sp := []) (fu := 17) (fa_nil) (by decide +kernel)
/-- X12_has -/
def tA100c : aCt := (156, [aI 14 14, aI 3 3], [], [(some (aI 1 1), [(14, 14), (3, 3)], [])], [])
set_option maxRecDepth 100000 in
theorem tA100 : vC tS tRA jM 1 tA100c := chkF_ok (D := 0) (hst := jM_st (by decide +kernel)) (T := []) (N := []) (sp := []) (fu := 17) (fa_nil) (by decide +kernel)
/-- X12_has -/
def tA101c : aCt := (156, [aI 15 15, aI 0 0], [], [(some (aI 1 1), [(15, 15), (0, 0)], [])], [])
set_option maxRecDepth 100000 in
theorem tA101 : vC tS tRA jM 1 tA101c := chkF_ok (D := 0) (hst := jM_st (by decide +kernel)) (T := []) (N := []) (sp := []) (fu := 17) (fa_nil) (by decide +kernel)
/-- X12_has -/
def tA102c : aCt := (156, [aI 15 15, aI 1 1], [], [(some (aI 1 1), [(15, 15), (1, 1)], [])], [])
set_option maxRecDepth 100000 in
theorem tA102 : vC tS tRA jM 1 tA102c := chkF_ok (D := 0) (hst := jM_st (by decide +kernel)) (T := []) (N := []) (sp := []) (fu := 17) (fa_nil) (by decide +kernel)
/-- X12_has -/
def tA103c : aCt := (156, [aI 15 15, aI 2 2], [], [(some (aI 1 1), [(15, 15), (2, 2)], [])], [])
set_option maxRecDepth 100000 in
theorem tA103 : vC tS tRA jM 1 tA103c := chkF_ok (D := 0) (hst := jM_st (by decide +kernel)) (T := []) (N := []) (sp := []) (fu := 17) (fa_nil) (by decide +kernel)
/-- X12_has -/
def tA104c : aCt := (156, [aI 15 15, aI 3 3], [], [(some (aI 1 1), [(15, 15), (3, 3)], [])], [])
set_option maxRecDepth 100000 in
theorem tA104 : vC tS tRA jM 1 tA104c := chkF_ok (D := 0) (hst := jM_st (by decide +kernel)) (T := []) (N := []) (sp := []) (fu := 17) (fa_nil) (by decide +kernel)
/-- X12_readItems -/
def tA105c : aCt := (185, [aR [314], aI 101 101, aR [321], aI 0 0, aR [1003]], zka_q0, [(none, zka_l5, ([zka_y3] ++ (rdF 1))), (none, zka_l5, [zka_y0])], [(314, 10, 12), (321, 0, 4)])
set_option maxRecDepth 100000 in
theorem tA105 : vC tS tRA jM 11 tA105c := chkF_ok (D := 10) (hst := jM_st (by decide +kernel)) (T := [(fA3c 0), tA26c, tA27c, tA28c, tA29c, tA30c, (fA0c 0), tA35c, tA36c, tA8c, tA37c, tA38c, tA13c, tA14c, tA39c, tA40c, tA41c, tA42c, tA43c, tA45c, tA46c, tA47c, tA48c, tA50c, tA19c, tA0c, tA20c, tA51c, tA52c, tA21c, tA22c, tA53c, tA54c, tA55c, tA56c, tA57c, tA58c, tA59c, tA60c, tA61c, tA62c, tA23c, tA24c, tA63c, tA64c, tA65c, tA66c, tA67c, tA68c, tA69c, tA70c, tA71c, tA72c, tA73c, tA74c, tA75c, tA76c, tA77c, tA78c, tA79c, tA80c, tA81c, tA82c, tA83c, tA84c, tA85c, tA86c, tA87c, tA88c, tA89c, tA90c, tA91c, tA92c, tA93c, tA94c, tA95c, tA96c, tA97c, tA98c, tA99c, tA100c, tA101c, tA102c, tA103c, tA104c]) (N := [(3, [zka_x0, zka_x12, zka_x13, zka_x3, zka_x14, zka_x5], zka_q0, 9, []),
  (3, [zka_x0, zka_x12, zka_x13, zka_x3, zka_x14, zka_x6], [zka_y3, zka_y1, zka_y12], 8, []),
  (3, [zka_x0, zka_x12, zka_x13, zka_x3, zka_x14, zka_x7], [zka_y3, zka_y1, zka_y12, zka_y13], 7, []),
  (3, [zka_x0, zka_x12, zka_x13, zka_x3, zka_x14, zka_x11], [zka_y3, zka_y1, zka_y12, zka_y13, zka_y14], 6, []),
  (3, [zka_x0, zka_x12, zka_x13, zka_x3, zka_x14, zka_x15], zka_q5, 5, []),
  (45, [zka_x0, zka_x12, zka_x13, zka_x3, zka_x14, zka_x5, zka_x8], zka_q6, 4, []),
  (45, [zka_x0, zka_x12, zka_x13, zka_x3, zka_x14, zka_x5, zka_x9], zka_q6, 4, []),
  (45, [zka_x0, zka_x12, zka_x13, zka_x3, zka_x14, zka_x5, zka_x16], zka_q6, 4, []),
  (45, [zka_x0, zka_x12, zka_x13, zka_x3, zka_x14, zka_x5, zka_x17], zka_q6, 4, []),
  (45, [zka_x0, zka_x12, zka_x13, zka_x3, zka_x14, zka_x5, zka_x10], zka_q5, 0, []),
  (45, [zka_x0, zka_x12, zka_x13, zka_x3, zka_x14, zka_x6, zka_x8], [zka_y1, zka_y13, zka_y14, zka_y15, zka_y16], 0, []),
  (45, [zka_x0, zka_x12, zka_x13, zka_x3, zka_x14, zka_x6, zka_x9], zka_q7, 3, []),
  (45, [zka_x0, zka_x12, zka_x13, zka_x3, zka_x14, zka_x6, zka_x16], zka_q7, 3, []),
  (45, [zka_x0, zka_x12, zka_x13, zka_x3, zka_x14, zka_x6, zka_x17], zka_q7, 3, []),
  (45, [zka_x0, zka_x12, zka_x13, zka_x3, zka_x14, zka_x6, zka_x10], [zka_y3, zka_y1, zka_y13, zka_y14, zka_y15, zka_y17, zka_y9], 0, []),
  (45, [zka_x0, zka_x12, zka_x13, zka_x3, zka_x14, zka_x7, zka_x8], zka_q8, 3, []),
  (45, [zka_x0, zka_x12, zka_x13, zka_x3, zka_x14, zka_x7, zka_x9], [zka_y1, zka_y12, zka_y14, zka_y15, zka_y19], 0, []),
  (45, [zka_x0, zka_x12, zka_x13, zka_x3, zka_x14, zka_x7, zka_x16], zka_q8, 3, []),
  (45, [zka_x0, zka_x12, zka_x13, zka_x3, zka_x14, zka_x7, zka_x17], zka_q8, 3, []),
  (45, [zka_x0, zka_x12, zka_x13, zka_x3, zka_x14, zka_x7, zka_x10], [zka_y3, zka_y1, zka_y12, zka_y14, zka_y15, zka_y18, zka_y9], 0, []),
  (45, [zka_x0, zka_x12, zka_x13, zka_x3, zka_x14, zka_x15, zka_x8], zka_q9, 3, []),
  (45, [zka_x0, zka_x12, zka_x13, zka_x3, zka_x14, zka_x15, zka_x9], zka_q9, 3, []),
  (45, [zka_x0, zka_x12, zka_x13, zka_x3, zka_x14, zka_x15, zka_x16], [zka_y1, zka_y12, zka_y13, zka_y15, zka_y21], 0, []),
  (45, [zka_x0, zka_x12, zka_x13, zka_x3, zka_x14, zka_x15, zka_x17], zka_q9, 3, []),
  (45, [zka_x0, zka_x12, zka_x13, zka_x3, zka_x14, zka_x15, zka_x10], [zka_y3, zka_y1, zka_y12, zka_y13, zka_y15, zka_y20, zka_y9], 0, []),
  (45, [zka_x0, zka_x12, zka_x13, zka_x3, zka_x14, zka_x18, zka_x8], zka_q10, 3, []),
  (45, [zka_x0, zka_x12, zka_x13, zka_x3, zka_x14, zka_x18, zka_x9], zka_q10, 3, []),
  (45, [zka_x0, zka_x12, zka_x13, zka_x3, zka_x14, zka_x18, zka_x16], zka_q10, 3, []),
  (45, [zka_x0, zka_x12, zka_x13, zka_x3, zka_x14, zka_x18, zka_x17], [zka_y1, zka_y12, zka_y13, zka_y14, zka_y23], 0, []),
  (45, [zka_x0, zka_x12, zka_x13, zka_x3, zka_x14, zka_x18, zka_x10], [zka_y3, zka_y1, zka_y12, zka_y13, zka_y14, zka_y22, zka_y9], 0, []),
  (45, [zka_x0, zka_x12, zka_x13, zka_x3, zka_x14, zka_x11, zka_x8], [zka_y1, zka_y14, zka_y15, zka_y16, zka_y18], 0, []),
  (45, [zka_x0, zka_x12, zka_x13, zka_x3, zka_x14, zka_x11, zka_x9], [zka_y1, zka_y14, zka_y15, zka_y17, zka_y19], 0, []),
  (45, [zka_x0, zka_x12, zka_x13, zka_x3, zka_x14, zka_x11, zka_x16], zka_q11, 2, []),
  (45, [zka_x0, zka_x12, zka_x13, zka_x3, zka_x14, zka_x11, zka_x17], zka_q11, 2, []),
  (45, [zka_x0, zka_x12, zka_x13, zka_x3, zka_x14, zka_x11, zka_x10], [zka_y3, zka_y1, zka_y14, zka_y15, zka_y17, zka_y18, zka_y9], 0, []),
  (45, [zka_x0, zka_x12, zka_x13, zka_x3, zka_x14, zka_x19, zka_x8], [zka_y1, zka_y13, zka_y15, zka_y16, zka_y20], 0, []),
  (45, [zka_x0, zka_x12, zka_x13, zka_x3, zka_x14, zka_x19, zka_x9], zka_q12, 2, []),
  (45, [zka_x0, zka_x12, zka_x13, zka_x3, zka_x14, zka_x19, zka_x16], [zka_y1, zka_y13, zka_y15, zka_y17, zka_y21], 0, []),
  (45, [zka_x0, zka_x12, zka_x13, zka_x3, zka_x14, zka_x19, zka_x17], zka_q12, 2, []),
  (45, [zka_x0, zka_x12, zka_x13, zka_x3, zka_x14, zka_x19, zka_x10], [zka_y3, zka_y1, zka_y13, zka_y15, zka_y17, zka_y20, zka_y9], 0, []),
  (45, [zka_x0, zka_x12, zka_x13, zka_x3, zka_x14, zka_x20, zka_x8], [zka_y1, zka_y13, zka_y14, zka_y16, zka_y22], 0, []),
  (45, [zka_x0, zka_x12, zka_x13, zka_x3, zka_x14, zka_x20, zka_x9], zka_q13, 2, []),
  (45, [zka_x0, zka_x12, zka_x13, zka_x3, zka_x14, zka_x20, zka_x16], zka_q13, 2, []),
  (45, [zka_x0, zka_x12, zka_x13, zka_x3, zka_x14, zka_x20, zka_x17], [zka_y1, zka_y13, zka_y14, zka_y17, zka_y23], 0, []),
  (45, [zka_x0, zka_x12, zka_x13, zka_x3, zka_x14, zka_x20, zka_x10], [zka_y3, zka_y1, zka_y13, zka_y14, zka_y17, zka_y22, zka_y9], 0, []),
  (45, [zka_x0, zka_x12, zka_x13, zka_x3, zka_x14, zka_x21, zka_x8], zka_q14, 2, []),
  (45, [zka_x0, zka_x12, zka_x13, zka_x3, zka_x14, zka_x21, zka_x9], [zka_y1, zka_y12, zka_y15, zka_y19, zka_y20], 0, []),
  (45, [zka_x0, zka_x12, zka_x13, zka_x3, zka_x14, zka_x21, zka_x16], [zka_y1, zka_y12, zka_y15, zka_y18, zka_y21], 0, []),
  (45, [zka_x0, zka_x12, zka_x13, zka_x3, zka_x14, zka_x21, zka_x17], zka_q14, 2, []),
  (45, [zka_x0, zka_x12, zka_x13, zka_x3, zka_x14, zka_x21, zka_x10], [zka_y3, zka_y1, zka_y12, zka_y15, zka_y18, zka_y20, zka_y9], 0, []),
  (45, [zka_x0, zka_x12, zka_x13, zka_x3, zka_x14, zka_x22, zka_x8], zka_q15, 2, []),
  (45, [zka_x0, zka_x12, zka_x13, zka_x3, zka_x14, zka_x22, zka_x9], [zka_y1, zka_y12, zka_y14, zka_y19, zka_y22], 0, []),
  (45, [zka_x0, zka_x12, zka_x13, zka_x3, zka_x14, zka_x22, zka_x16], zka_q15, 2, []),
  (45, [zka_x0, zka_x12, zka_x13, zka_x3, zka_x14, zka_x22, zka_x17], [zka_y1, zka_y12, zka_y14, zka_y18, zka_y23], 0, []),
  (45, [zka_x0, zka_x12, zka_x13, zka_x3, zka_x14, zka_x22, zka_x10], [zka_y3, zka_y1, zka_y12, zka_y14, zka_y18, zka_y22, zka_y9], 0, []),
  (45, [zka_x0, zka_x12, zka_x13, zka_x3, zka_x14, zka_x23, zka_x8], zka_q16, 2, []),
  (45, [zka_x0, zka_x12, zka_x13, zka_x3, zka_x14, zka_x23, zka_x9], zka_q16, 2, []),
  (45, [zka_x0, zka_x12, zka_x13, zka_x3, zka_x14, zka_x23, zka_x16], [zka_y1, zka_y12, zka_y13, zka_y21, zka_y22], 0, []),
  (45, [zka_x0, zka_x12, zka_x13, zka_x3, zka_x14, zka_x23, zka_x17], [zka_y1, zka_y12, zka_y13, zka_y20, zka_y23], 0, []),
  (45, [zka_x0, zka_x12, zka_x13, zka_x3, zka_x14, zka_x23, zka_x10], [zka_y3, zka_y1, zka_y12, zka_y13, zka_y20, zka_y22, zka_y9], 0, []),
  (45, [zka_x0, zka_x12, zka_x13, zka_x3, zka_x14, zka_x24, zka_x8], [zka_y1, zka_y15, zka_y16, zka_y18, zka_y20], 0, []),
  (45, [zka_x0, zka_x12, zka_x13, zka_x3, zka_x14, zka_x24, zka_x9], [zka_y1, zka_y15, zka_y17, zka_y19, zka_y20], 0, []),
  (45, [zka_x0, zka_x12, zka_x13, zka_x3, zka_x14, zka_x24, zka_x16], [zka_y1, zka_y15, zka_y17, zka_y18, zka_y21], 0, []),
  (45, [zka_x0, zka_x12, zka_x13, zka_x3, zka_x14, zka_x24, zka_x17], [zka_y3, zka_y1, zka_y15, zka_y17, zka_y18, zka_y20, zka_y2], 1, []),
  (45, [zka_x0, zka_x12, zka_x13, zka_x3, zka_x14, zka_x24, zka_x10], [zka_y3, zka_y1, zka_y15, zka_y17, zka_y18, zka_y20, zka_y9], 0, []),
  (45, [zka_x0, zka_x12, zka_x13, zka_x3, zka_x14, zka_x25, zka_x8], [zka_y1, zka_y14, zka_y16, zka_y18, zka_y22], 0, []),
  (45, [zka_x0, zka_x12, zka_x13, zka_x3, zka_x14, zka_x25, zka_x9], [zka_y1, zka_y14, zka_y17, zka_y19, zka_y22], 0, []),
  (45, [zka_x0, zka_x12, zka_x13, zka_x3, zka_x14, zka_x25, zka_x16], [zka_y3, zka_y1, zka_y14, zka_y17, zka_y18, zka_y22, zka_y2], 1, []),
  (45, [zka_x0, zka_x12, zka_x13, zka_x3, zka_x14, zka_x25, zka_x17], [zka_y1, zka_y14, zka_y17, zka_y18, zka_y23], 0, []),
  (45, [zka_x0, zka_x12, zka_x13, zka_x3, zka_x14, zka_x25, zka_x10], [zka_y3, zka_y1, zka_y14, zka_y17, zka_y18, zka_y22, zka_y9], 0, []),
  (45, [zka_x0, zka_x12, zka_x13, zka_x3, zka_x14, zka_x26, zka_x8], [zka_y1, zka_y13, zka_y16, zka_y20, zka_y22], 0, []),
  (45, [zka_x0, zka_x12, zka_x13, zka_x3, zka_x14, zka_x26, zka_x9], [zka_y3, zka_y1, zka_y13, zka_y17, zka_y20, zka_y22, zka_y2], 1, []),
  (45, [zka_x0, zka_x12, zka_x13, zka_x3, zka_x14, zka_x26, zka_x16], [zka_y1, zka_y13, zka_y17, zka_y21, zka_y22], 0, []),
  (45, [zka_x0, zka_x12, zka_x13, zka_x3, zka_x14, zka_x26, zka_x17], [zka_y1, zka_y13, zka_y17, zka_y20, zka_y23], 0, []),
  (45, [zka_x0, zka_x12, zka_x13, zka_x3, zka_x14, zka_x26, zka_x10], [zka_y3, zka_y1, zka_y13, zka_y17, zka_y20, zka_y22, zka_y9], 0, []),
  (45, [zka_x0, zka_x12, zka_x13, zka_x3, zka_x14, zka_x27, zka_x8], [zka_y3, zka_y1, zka_y12, zka_y18, zka_y20, zka_y22, zka_y2], 1, []),
  (45, [zka_x0, zka_x12, zka_x13, zka_x3, zka_x14, zka_x27, zka_x9], [zka_y1, zka_y12, zka_y19, zka_y20, zka_y22], 0, []),
  (45, [zka_x0, zka_x12, zka_x13, zka_x3, zka_x14, zka_x27, zka_x16], [zka_y1, zka_y12, zka_y18, zka_y21, zka_y22], 0, []),
  (45, [zka_x0, zka_x12, zka_x13, zka_x3, zka_x14, zka_x27, zka_x17], [zka_y1, zka_y12, zka_y18, zka_y20, zka_y23], 0, []),
  (45, [zka_x0, zka_x12, zka_x13, zka_x3, zka_x14, zka_x27, zka_x10], [zka_y3, zka_y1, zka_y12, zka_y18, zka_y20, zka_y22, zka_y9], 0, []),
  (45, [zka_x0, zka_x12, zka_x13, zka_x3, zka_x14, zka_x28, zka_x8], [zka_y1, zka_y16, zka_y18, zka_y20, zka_y22], 0, []),
  (45, [zka_x0, zka_x12, zka_x13, zka_x3, zka_x14, zka_x28, zka_x9], [zka_y1, zka_y17, zka_y19, zka_y20, zka_y22], 0, []),
  (45, [zka_x0, zka_x12, zka_x13, zka_x3, zka_x14, zka_x28, zka_x16], [zka_y1, zka_y17, zka_y18, zka_y21, zka_y22], 0, []),
  (45, [zka_x0, zka_x12, zka_x13, zka_x3, zka_x14, zka_x28, zka_x17], [zka_y1, zka_y17, zka_y18, zka_y20, zka_y23], 0, []),
  (45, [zka_x0, zka_x12, zka_x13, zka_x3, zka_x14, zka_x28, zka_x10], (zka_q4 ++ (rdF 1)), 0, [])]) (sp := [(3, 5), (45, 6)]) (fu := 54) (fa_cons (vUq (fA3 0) (by decide)) (fa_cons (vUq tA26 (by decide)) (fa_cons (vUq tA27 (by decide)) (fa_cons (vUq tA28 (by decide)) (fa_cons (vUq tA29 (by decide)) (fa_cons (vUq tA30 (by decide)) (fa_cons (vUq (fA0 0) (by decide)) (fa_cons (vUq tA35 (by decide)) (fa_cons (vUq tA36 (by decide)) (fa_cons (vUq tA8 (by decide)) (fa_cons (vUq tA37 (by decide)) (fa_cons (vUq tA38 (by decide)) (fa_cons (vUq tA13 (by decide)) (fa_cons (vUq tA14 (by decide)) (fa_cons (vUq tA39 (by decide)) (fa_cons (vUq tA40 (by decide)) (fa_cons (vUq tA41 (by decide)) (fa_cons (vUq tA42 (by decide)) (fa_cons (vUq tA43 (by decide)) (fa_cons (vUq tA45 (by decide)) (fa_cons (vUq tA46 (by decide)) (fa_cons (vUq tA47 (by decide)) (fa_cons (vUq tA48 (by decide)) (fa_cons (vUq tA50 (by decide)) (fa_cons (vUq tA19 (by decide)) (fa_cons (vUq tA0 (by decide)) (fa_cons (vUq tA20 (by decide)) (fa_cons (vUq tA51 (by decide)) (fa_cons (vUq tA52 (by decide)) (fa_cons (vUq tA21 (by decide)) (fa_cons (vUq tA22 (by decide)) (fa_cons (vUq tA53 (by decide)) (fa_cons (vUq tA54 (by decide)) (fa_cons (vUq tA55 (by decide)) (fa_cons (vUq tA56 (by decide)) (fa_cons (vUq tA57 (by decide)) (fa_cons (vUq tA58 (by decide)) (fa_cons (vUq tA59 (by decide)) (fa_cons (vUq tA60 (by decide)) (fa_cons (vUq tA61 (by decide)) (fa_cons (vUq tA62 (by decide)) (fa_cons (vUq tA23 (by decide)) (fa_cons (vUq tA24 (by decide)) (fa_cons (vUq tA63 (by decide)) (fa_cons (vUq tA64 (by decide)) (fa_cons (vUq tA65 (by decide)) (fa_cons (vUq tA66 (by decide)) (fa_cons (vUq tA67 (by decide)) (fa_cons (vUq tA68 (by decide)) (fa_cons (vUq tA69 (by decide)) (fa_cons (vUq tA70 (by decide)) (fa_cons (vUq tA71 (by decide)) (fa_cons (vUq tA72 (by decide)) (fa_cons (vUq tA73 (by decide)) (fa_cons (vUq tA74 (by decide)) (fa_cons (vUq tA75 (by decide)) (fa_cons (vUq tA76 (by decide)) (fa_cons (vUq tA77 (by decide)) (fa_cons (vUq tA78 (by decide)) (fa_cons (vUq tA79 (by decide)) (fa_cons (vUq tA80 (by decide)) (fa_cons (vUq tA81 (by decide)) (fa_cons (vUq tA82 (by decide)) (fa_cons (vUq tA83 (by decide)) (fa_cons (vUq tA84 (by decide)) (fa_cons (vUq tA85 (by decide)) (fa_cons (vUq tA86 (by decide)) (fa_cons (vUq tA87 (by decide)) (fa_cons (vUq tA88 (by decide)) (fa_cons (vUq tA89 (by decide)) (fa_cons (vUq tA90 (by decide)) (fa_cons (vUq tA91 (by decide)) (fa_cons (vUq tA92 (by decide)) (fa_cons (vUq tA93 (by decide)) (fa_cons (vUq tA94 (by decide)) (fa_cons (vUq tA95 (by decide)) (fa_cons (vUq tA96 (by decide)) (fa_cons (vUq tA97 (by decide)) (fa_cons (vUq tA98 (by decide)) (fa_cons (vUq tA99 (by decide)) (fa_cons (vUq tA100 (by decide)) (fa_cons (vUq tA101 (by decide)) (fa_cons (vUq tA102 (by decide)) (fa_cons (vUq tA103 (by decide)) (fa_cons (vUq tA104 (by decide)) (fa_nil)))))))))))))))))))))))))))))))))))))))))))))))))))))))))))))))))))))))))))))))))))))) (by decide +kernel)
/-- str271 -/
def tA106c : aCt := (271, [aR [1002]], [], [(some (aI 2 2), [(lLo, lHi)], [])], [])
theorem tA106 : vC tS tRA jM 1 tA106c := str_len (x := 2) (n := 2) (by decide +kernel) (by decide +kernel) rfl
/-- X12_usual -/
def tA107c : aCt := (184, [aI 115 115, aI 0 0], [], [(some (aI 4 4), [(115, 115), (0, 0)], [])], [])
set_option maxRecDepth 100000 in
theorem tA107 : vC tS tRA jM 1 tA107c := chkF_ok (D := 0) (hst := jM_st (by decide +kernel)) (T := []) (N := []) (sp := []) (fu := 15) (fa_nil) (by decide +kernel)
/-- X12_usual -/
def tA108c : aCt := (184, [aI 115 115, aI 1 1], [], [(some (aI 20 20), [(115, 115), (1, 1)], [])], [])
set_option maxRecDepth 100000 in
theorem tA108 : vC tS tRA jM 1 tA108c := chkF_ok (D := 0) (hst := jM_st (by decide +kernel)) (T := []) (N := []) (sp := []) (fu := 14) (fa_nil) (by decide +kernel)
/-- str272 -/
def tA109c : aCt := (272, [aR [1002], aI 0 0], [], [(some (aI 110 110), zka_l2, [])], [])
theorem tA109 : vC tS tRA jM 1 tA109c := str_at (x := 2) (n := 2) (i0 := 0) (i1 := 0) (by decide +kernel) (by decide) (by decide) (rng_of (by decide +kernel))
/-- str272 -/
def tA110c : aCt := (272, [aR [1002], aI 1 1], [], [(some (aI 107 107), zka_l2, [])], [])
theorem tA110 : vC tS tRA jM 1 tA110c := str_at (x := 2) (n := 2) (i0 := 1) (i1 := 1) (by decide +kernel) (by decide) (by decide) (rng_of (by decide +kernel))
/-- X12_spotOf -/
def tA111c : aCt := (180, [aR [1002], aI 0 255], [], [(some (aI (-1) (-1)), [(lLo, lHi), (0, 255)], []), (some (aI 1 1), [(lLo, lHi), (107, 107)], []), (some (aI 0 0), [(lLo, lHi), (110, 110)], [])], [])
set_option maxRecDepth 100000 in
theorem tA111 : vC tS tRA jM 2 tA111c := chkF_ok (D := 1) (hst := jM_st (by decide +kernel)) (T := [tA106c, tA109c, tA110c]) (N := []) (sp := []) (fu := 37) (fa_cons (vUq tA106 (by decide)) (fa_cons (vUq tA109 (by decide)) (fa_cons (vUq tA110 (by decide)) (fa_nil)))) (by decide +kernel)
/-- X12_spotOf -/
def tA112c : aCt := (180, [aR [1002], aI (-1) (-1)], [], [(some (aI (-1) (-1)), [(lLo, lHi), ((-1), (-1))], [])], [])
set_option maxRecDepth 100000 in
theorem tA112 : vC tS tRA jM 2 tA112c := chkF_ok (D := 1) (hst := jM_st (by decide +kernel)) (T := [tA106c, tA109c, tA110c]) (N := []) (sp := []) (fu := 37) (fa_cons (vUq tA106 (by decide)) (fa_cons (vUq tA109 (by decide)) (fa_cons (vUq tA110 (by decide)) (fa_nil)))) (by decide +kernel)
/-- X12_leastOf -/
def tA113c : aCt := (183, [aI 115 115, aI 0 0], [], [(some (aI 2 2), [(115, 115), (0, 0)], [])], [])
set_option maxRecDepth 100000 in
theorem tA113 : vC tS tRA jM 1 tA113c := chkF_ok (D := 0) (hst := jM_st (by decide +kernel)) (T := []) (N := []) (sp := []) (fu := 14) (fa_nil) (by decide +kernel)
/-- X12_mostOf -/
def tA114c : aCt := (182, [aI 115 115, aI 0 0], [], [(some (aI 8 8), [(115, 115), (0, 0)], [])], [])
set_option maxRecDepth 100000 in
theorem tA114 : vC tS tRA jM 1 tA114c := chkF_ok (D := 0) (hst := jM_st (by decide +kernel)) (T := []) (N := []) (sp := []) (fu := 15) (fa_nil) (by decide +kernel)
/-- X12_isIn -/
def tA115c : aCt := (155, [aLt, aL 2 2, aL 8 8], [], [(some (aI 1 1), [(2, 8), (lLo, lHi), (lLo, lHi)], []), (some (aI 0 0), zka_l3, [])], [])
theorem tA115 : vC tS tRA jM 1 tA115c := isin_ok (2) (2) (8) (8)
/-- X12_number -/
def tA116c : aCt := (181, [aR [314], aI 2 2, aI 8 8], zka_q0, [(some (aI 0 0), [(lLo, lHi), (2, 2), (8, 8)], [zka_y0]), (some (aI (-539) 2277), [(lLo, lHi), (2, 2), (8, 8)], [zka_y0]), (some (aI 2 8), [(lLo, lHi), (2, 2), (8, 8)], zka_q1)], [(314, 10, 12)])
set_option maxRecDepth 100000 in
theorem tA116 : vC tS tRA jM 10 tA116c := chkF_ok (D := 9) (hst := jM_st (by decide +kernel)) (T := [(fA0c 0), (fA10c 0), tA11c, tA0c, tA115c]) (N := []) (sp := []) (fu := 63) (fa_cons (vUq (fA0 0) (by decide)) (fa_cons (vUq (fA10 0) (by decide)) (fa_cons (vUq tA11 (by decide)) (fa_cons (vUq tA0 (by decide)) (fa_cons (vUq tA115 (by decide)) (fa_nil)))))) (by decide +kernel)
/-- X12_leastOf -/
def tA117c : aCt := (183, [aI 115 115, aI 1 1], [], [(some (aI 0 0), [(115, 115), (1, 1)], [])], [])
set_option maxRecDepth 100000 in
theorem tA117 : vC tS tRA jM 1 tA117c := chkF_ok (D := 0) (hst := jM_st (by decide +kernel)) (T := []) (N := []) (sp := []) (fu := 17) (fa_nil) (by decide +kernel)
/-- X12_mostOf -/
def tA118c : aCt := (182, [aI 115 115, aI 1 1], [], [(some (aI 99 99), [(115, 115), (1, 1)], [])], [])
set_option maxRecDepth 100000 in
theorem tA118 : vC tS tRA jM 1 tA118c := chkF_ok (D := 0) (hst := jM_st (by decide +kernel)) (T := []) (N := []) (sp := []) (fu := 14) (fa_nil) (by decide +kernel)
/-- X12_isIn -/
def tA119c : aCt := (155, [aLt, aL 0 0, aL 99 99], [], [(some (aI 1 1), [(0, 99), (lLo, lHi), (lLo, lHi)], []), (some (aI 0 0), zka_l3, [])], [])
theorem tA119 : vC tS tRA jM 1 tA119c := isin_ok (0) (0) (99) (99)
/-- X12_number -/
def tA120c : aCt := (181, [aR [314], aI 0 0, aI 99 99], zka_q0, [(some (aI 0 0), [(lLo, lHi), (0, 0), (99, 99)], [zka_y0]), (some (aI (-539) 2277), [(lLo, lHi), (0, 0), (99, 99)], [zka_y0]), (some (aI 0 99), [(lLo, lHi), (0, 0), (99, 99)], zka_q1)], [(314, 10, 12)])
set_option maxRecDepth 100000 in
theorem tA120 : vC tS tRA jM 10 tA120c := chkF_ok (D := 9) (hst := jM_st (by decide +kernel)) (T := [(fA0c 0), (fA10c 0), tA11c, tA0c, tA119c]) (N := []) (sp := []) (fu := 63) (fa_cons (vUq (fA0 0) (by decide)) (fa_cons (vUq (fA10 0) (by decide)) (fa_cons (vUq tA11 (by decide)) (fa_cons (vUq tA0 (by decide)) (fa_cons (vUq tA119 (by decide)) (fa_nil)))))) (by decide +kernel)
/-- X12_readItems -/
def tA121c : aCt := (185, [aR [314], aI 115 115, aR [319], aI 0 0, aR [1002]], zka_q0, [(none, zka_l5, [zka_y3, zka_y24, zka_y25]), (none, zka_l5, [zka_y0])], [(314, 10, 12), (319, 0, 2)])
set_option maxRecDepth 100000 in
theorem tA121 : vC tS tRA jM 11 tA121c := chkF_ok (D := 10) (hst := jM_st (by decide +kernel)) (T := [(fA3c 0), tA106c, tA107c, tA108c, (fA0c 0), tA111c, tA112c, tA8c, tA113c, tA114c, tA116c, tA14c, tA117c, tA118c, tA120c, tA19c, tA0c, tA20c, tA21c, tA22c, tA23c, tA24c]) (N := [(3, [zka_x0, zka_x29, zka_x30, zka_x3, zka_x31, zka_x5], zka_q0, 5, []),
  (3, [zka_x0, zka_x29, zka_x30, zka_x3, zka_x31, zka_x6], [zka_y3, zka_y1, zka_y26], 4, []),
  (3, [zka_x0, zka_x29, zka_x30, zka_x3, zka_x31, zka_x7], zka_q17, 3, []),
  (45, [zka_x0, zka_x29, zka_x30, zka_x3, zka_x31, zka_x5, zka_x8], zka_q18, 2, []),
  (45, [zka_x0, zka_x29, zka_x30, zka_x3, zka_x31, zka_x5, zka_x9], zka_q18, 2, []),
  (45, [zka_x0, zka_x29, zka_x30, zka_x3, zka_x31, zka_x5, zka_x10], zka_q17, 0, []),
  (45, [zka_x0, zka_x29, zka_x30, zka_x3, zka_x31, zka_x6, zka_x8], [zka_y1, zka_y27, zka_y28], 0, []),
  (45, [zka_x0, zka_x29, zka_x30, zka_x3, zka_x31, zka_x6, zka_x9], [zka_y3, zka_y1, zka_y27, zka_y24, zka_y2], 1, []),
  (45, [zka_x0, zka_x29, zka_x30, zka_x3, zka_x31, zka_x6, zka_x10], [zka_y3, zka_y1, zka_y27, zka_y24, zka_y9], 0, []),
  (45, [zka_x0, zka_x29, zka_x30, zka_x3, zka_x31, zka_x7, zka_x8], [zka_y3, zka_y1, zka_y26, zka_y25, zka_y2], 1, []),
  (45, [zka_x0, zka_x29, zka_x30, zka_x3, zka_x31, zka_x7, zka_x9], [zka_y1, zka_y26, zka_y29], 0, []),
  (45, [zka_x0, zka_x29, zka_x30, zka_x3, zka_x31, zka_x7, zka_x10], [zka_y3, zka_y1, zka_y26, zka_y25, zka_y9], 0, []),
  (45, [zka_x0, zka_x29, zka_x30, zka_x3, zka_x31, zka_x11, zka_x8], [zka_y1, zka_y28, zka_y25], 0, []),
  (45, [zka_x0, zka_x29, zka_x30, zka_x3, zka_x31, zka_x11, zka_x9], [zka_y1, zka_y24, zka_y29], 0, []),
  (45, [zka_x0, zka_x29, zka_x30, zka_x3, zka_x31, zka_x11, zka_x10], [zka_y3, zka_y1, zka_y24, zka_y25, zka_y9], 0, [])]) (sp := [(3, 5), (45, 6)]) (fu := 54) (fa_cons (vUq (fA3 0) (by decide)) (fa_cons (vUq tA106 (by decide)) (fa_cons (vUq tA107 (by decide)) (fa_cons (vUq tA108 (by decide)) (fa_cons (vUq (fA0 0) (by decide)) (fa_cons (vUq tA111 (by decide)) (fa_cons (vUq tA112 (by decide)) (fa_cons (vUq tA8 (by decide)) (fa_cons (vUq tA113 (by decide)) (fa_cons (vUq tA114 (by decide)) (fa_cons (vUq tA116 (by decide)) (fa_cons (vUq tA14 (by decide)) (fa_cons (vUq tA117 (by decide)) (fa_cons (vUq tA118 (by decide)) (fa_cons (vUq tA120 (by decide)) (fa_cons (vUq tA19 (by decide)) (fa_cons (vUq tA0 (by decide)) (fa_cons (vUq tA20 (by decide)) (fa_cons (vUq tA21 (by decide)) (fa_cons (vUq tA22 (by decide)) (fa_cons (vUq tA23 (by decide)) (fa_cons (vUq tA24 (by decide)) (fa_nil))))))))))))))))))))))) (by decide +kernel)
/-- X12_readClause -/
def tA122c : aCt := (186, [aR [314]], [zka_y3, zka_y30, zka_y31, zka_y32, zka_y1, zka_y24, zka_y25], [(none, [(lLo, lHi)], [zka_y0]), (none, [(lLo, lHi)], ([zka_y30, zka_y32, zka_y33, zka_y3, zka_y24, zka_y25] ++ ([] ++ fkF 1))), (none, [(lLo, lHi)], ([zka_y31, zka_y32, zka_y34, zka_y3, zka_y24, zka_y25] ++ (rdF 1))), (none, [(lLo, lHi)], [zka_y30, zka_y31, zka_y35, zka_y3, zka_y24, zka_y25])], [(314, 10, 12), (314, 28, 30), (314, 31, 32), (319, 0, 2), (321, 0, 4), (323, 0, 2)])
set_option maxRecDepth 100000 in
theorem tA122 : vC tS tRA jM 12 tA122c := chkF_ok (D := 11) (hst := jM_st (by decide +kernel)) (T := [(fA0c 0), tA0c, tA25c, tA105c, tA121c]) (N := []) (sp := []) (fu := 59) (fa_cons (vUq (fA0 0) (by decide)) (fa_cons (vUq tA0 (by decide)) (fa_cons (vUq tA25 (by decide)) (fa_cons (vUq tA105 (by decide)) (fa_cons (vUq tA121 (by decide)) (fa_nil)))))) (by decide +kernel)
/-- X12_isWhole -/
def tA123c : aCt := (187, [aR [314]], [], [(some (aI 0 0), [(lLo, lHi)], []), (some (aI 1 1), [(lLo, lHi)], [zka_y36, zka_y37])], [])
set_option maxRecDepth 100000 in
theorem tA123 : vC tS tRA jM 1 tA123c := chkF_ok (D := 0) (hst := jM_st (by decide +kernel)) (T := []) (N := [(9, [zka_x0, zka_x32, zka_x33], [], 5, [(2, 1, 12, true)]),
  (74, [zka_x0, zka_x32, zka_x34], [], 0, [(2, 1, 4, true)])]) (sp := []) (fu := 47) (fa_nil) (by decide +kernel)
/-- X12_readClause -/
def tA124c : aCt := (186, [aR [314]], [zka_y3, zka_y30, zka_y31, zka_y35, zka_y1, zka_y24, zka_y25], [(none, [(lLo, lHi)], [zka_y0]), (none, [(lLo, lHi)], ([zka_y30, zka_y35, zka_y33, zka_y3, zka_y24, zka_y25] ++ ([] ++ fkF 1))), (none, [(lLo, lHi)], ([zka_y31, zka_y35, zka_y34, zka_y3, zka_y24, zka_y25] ++ (rdF 1)))], [(314, 10, 12), (314, 28, 30), (321, 0, 4), (323, 0, 2)])
set_option maxRecDepth 100000 in
theorem tA124 : vC tS tRA jM 12 tA124c := chkF_ok (D := 11) (hst := jM_st (by decide +kernel)) (T := [(fA0c 0), tA0c, tA25c, tA105c]) (N := []) (sp := []) (fu := 59) (fa_cons (vUq (fA0 0) (by decide)) (fa_cons (vUq tA0 (by decide)) (fa_cons (vUq tA25 (by decide)) (fa_cons (vUq tA105 (by decide)) (fa_nil))))) (by decide +kernel)
/-- X12_readItems -/
def tA125c : aCt := (185, [aR [314], aI 101 101, aR [321], aI 4 4, aR [1003]], zka_q0, [(none, zka_l5, [zka_y3, zka_y38, zka_y39, zka_y40, zka_y41]), (none, zka_l5, [zka_y0])], [(314, 10, 12), (321, 4, 8)])
set_option maxRecDepth 100000 in
theorem tA125 : vC tS tRA jM 11 tA125c := chkF_ok (D := 10) (hst := jM_st (by decide +kernel)) (T := [(fA3c 0), tA26c, tA27c, tA28c, tA29c, tA30c, (fA0c 0), tA35c, tA36c, tA8c, tA37c, tA38c, tA13c, tA14c, tA39c, tA40c, tA41c, tA42c, tA43c, tA45c, tA46c, tA47c, tA48c, tA50c, tA19c, tA0c, tA20c, tA51c, tA52c, tA21c, tA22c, tA53c, tA54c, tA55c, tA56c, tA57c, tA58c, tA59c, tA60c, tA61c, tA62c, tA23c, tA24c, tA63c, tA64c, tA65c, tA66c, tA67c, tA68c, tA69c, tA70c, tA71c, tA72c, tA73c, tA74c, tA75c, tA76c, tA77c, tA78c, tA79c, tA80c, tA81c, tA82c, tA83c, tA84c, tA85c, tA86c, tA87c, tA88c, tA89c, tA90c, tA91c, tA92c, tA93c, tA94c, tA95c, tA96c, tA97c, tA98c, tA99c, tA100c, tA101c, tA102c, tA103c, tA104c]) (N := [(3, [zka_x0, zka_x12, zka_x13, zka_x35, zka_x14, zka_x5], zka_q0, 9, []),
  (3, [zka_x0, zka_x12, zka_x13, zka_x35, zka_x14, zka_x6], [zka_y3, zka_y1, zka_y42], 8, []),
  (3, [zka_x0, zka_x12, zka_x13, zka_x35, zka_x14, zka_x7], [zka_y3, zka_y1, zka_y42, zka_y43], 7, []),
  (3, [zka_x0, zka_x12, zka_x13, zka_x35, zka_x14, zka_x11], [zka_y3, zka_y1, zka_y42, zka_y43, zka_y44], 6, []),
  (3, [zka_x0, zka_x12, zka_x13, zka_x35, zka_x14, zka_x15], zka_q19, 5, []),
  (45, [zka_x0, zka_x12, zka_x13, zka_x35, zka_x14, zka_x5, zka_x8], zka_q20, 4, []),
  (45, [zka_x0, zka_x12, zka_x13, zka_x35, zka_x14, zka_x5, zka_x9], zka_q20, 4, []),
  (45, [zka_x0, zka_x12, zka_x13, zka_x35, zka_x14, zka_x5, zka_x16], zka_q20, 4, []),
  (45, [zka_x0, zka_x12, zka_x13, zka_x35, zka_x14, zka_x5, zka_x17], zka_q20, 4, []),
  (45, [zka_x0, zka_x12, zka_x13, zka_x35, zka_x14, zka_x5, zka_x10], zka_q19, 0, []),
  (45, [zka_x0, zka_x12, zka_x13, zka_x35, zka_x14, zka_x6, zka_x8], [zka_y1, zka_y43, zka_y44, zka_y45, zka_y46], 0, []),
  (45, [zka_x0, zka_x12, zka_x13, zka_x35, zka_x14, zka_x6, zka_x9], zka_q21, 3, []),
  (45, [zka_x0, zka_x12, zka_x13, zka_x35, zka_x14, zka_x6, zka_x16], zka_q21, 3, []),
  (45, [zka_x0, zka_x12, zka_x13, zka_x35, zka_x14, zka_x6, zka_x17], zka_q21, 3, []),
  (45, [zka_x0, zka_x12, zka_x13, zka_x35, zka_x14, zka_x6, zka_x10], [zka_y3, zka_y1, zka_y43, zka_y44, zka_y45, zka_y38, zka_y9], 0, []),
  (45, [zka_x0, zka_x12, zka_x13, zka_x35, zka_x14, zka_x7, zka_x8], zka_q22, 3, []),
  (45, [zka_x0, zka_x12, zka_x13, zka_x35, zka_x14, zka_x7, zka_x9], [zka_y1, zka_y42, zka_y44, zka_y45, zka_y47], 0, []),
  (45, [zka_x0, zka_x12, zka_x13, zka_x35, zka_x14, zka_x7, zka_x16], zka_q22, 3, []),
  (45, [zka_x0, zka_x12, zka_x13, zka_x35, zka_x14, zka_x7, zka_x17], zka_q22, 3, []),
  (45, [zka_x0, zka_x12, zka_x13, zka_x35, zka_x14, zka_x7, zka_x10], [zka_y3, zka_y1, zka_y42, zka_y44, zka_y45, zka_y39, zka_y9], 0, []),
  (45, [zka_x0, zka_x12, zka_x13, zka_x35, zka_x14, zka_x15, zka_x8], zka_q23, 3, []),
  (45, [zka_x0, zka_x12, zka_x13, zka_x35, zka_x14, zka_x15, zka_x9], zka_q23, 3, []),
  (45, [zka_x0, zka_x12, zka_x13, zka_x35, zka_x14, zka_x15, zka_x16], [zka_y1, zka_y42, zka_y43, zka_y45, zka_y48], 0, []),
  (45, [zka_x0, zka_x12, zka_x13, zka_x35, zka_x14, zka_x15, zka_x17], zka_q23, 3, []),
  (45, [zka_x0, zka_x12, zka_x13, zka_x35, zka_x14, zka_x15, zka_x10], [zka_y3, zka_y1, zka_y42, zka_y43, zka_y45, zka_y40, zka_y9], 0, []),
  (45, [zka_x0, zka_x12, zka_x13, zka_x35, zka_x14, zka_x18, zka_x8], zka_q24, 3, []),
  (45, [zka_x0, zka_x12, zka_x13, zka_x35, zka_x14, zka_x18, zka_x9], zka_q24, 3, []),
  (45, [zka_x0, zka_x12, zka_x13, zka_x35, zka_x14, zka_x18, zka_x16], zka_q24, 3, []),
  (45, [zka_x0, zka_x12, zka_x13, zka_x35, zka_x14, zka_x18, zka_x17], [zka_y1, zka_y42, zka_y43, zka_y44, zka_y49], 0, []),
  (45, [zka_x0, zka_x12, zka_x13, zka_x35, zka_x14, zka_x18, zka_x10], [zka_y3, zka_y1, zka_y42, zka_y43, zka_y44, zka_y41, zka_y9], 0, []),
  (45, [zka_x0, zka_x12, zka_x13, zka_x35, zka_x14, zka_x11, zka_x8], [zka_y1, zka_y44, zka_y45, zka_y46, zka_y39], 0, []),
  (45, [zka_x0, zka_x12, zka_x13, zka_x35, zka_x14, zka_x11, zka_x9], [zka_y1, zka_y44, zka_y45, zka_y38, zka_y47], 0, []),
  (45, [zka_x0, zka_x12, zka_x13, zka_x35, zka_x14, zka_x11, zka_x16], zka_q25, 2, []),
  (45, [zka_x0, zka_x12, zka_x13, zka_x35, zka_x14, zka_x11, zka_x17], zka_q25, 2, []),
  (45, [zka_x0, zka_x12, zka_x13, zka_x35, zka_x14, zka_x11, zka_x10], [zka_y3, zka_y1, zka_y44, zka_y45, zka_y38, zka_y39, zka_y9], 0, []),
  (45, [zka_x0, zka_x12, zka_x13, zka_x35, zka_x14, zka_x19, zka_x8], [zka_y1, zka_y43, zka_y45, zka_y46, zka_y40], 0, []),
  (45, [zka_x0, zka_x12, zka_x13, zka_x35, zka_x14, zka_x19, zka_x9], zka_q26, 2, []),
  (45, [zka_x0, zka_x12, zka_x13, zka_x35, zka_x14, zka_x19, zka_x16], [zka_y1, zka_y43, zka_y45, zka_y38, zka_y48], 0, []),
  (45, [zka_x0, zka_x12, zka_x13, zka_x35, zka_x14, zka_x19, zka_x17], zka_q26, 2, []),
  (45, [zka_x0, zka_x12, zka_x13, zka_x35, zka_x14, zka_x19, zka_x10], [zka_y3, zka_y1, zka_y43, zka_y45, zka_y38, zka_y40, zka_y9], 0, []),
  (45, [zka_x0, zka_x12, zka_x13, zka_x35, zka_x14, zka_x20, zka_x8], [zka_y1, zka_y43, zka_y44, zka_y46, zka_y41], 0, []),
  (45, [zka_x0, zka_x12, zka_x13, zka_x35, zka_x14, zka_x20, zka_x9], zka_q27, 2, []),
  (45, [zka_x0, zka_x12, zka_x13, zka_x35, zka_x14, zka_x20, zka_x16], zka_q27, 2, []),
  (45, [zka_x0, zka_x12, zka_x13, zka_x35, zka_x14, zka_x20, zka_x17], [zka_y1, zka_y43, zka_y44, zka_y38, zka_y49], 0, []),
  (45, [zka_x0, zka_x12, zka_x13, zka_x35, zka_x14, zka_x20, zka_x10], [zka_y3, zka_y1, zka_y43, zka_y44, zka_y38, zka_y41, zka_y9], 0, []),
  (45, [zka_x0, zka_x12, zka_x13, zka_x35, zka_x14, zka_x21, zka_x8], zka_q28, 2, []),
  (45, [zka_x0, zka_x12, zka_x13, zka_x35, zka_x14, zka_x21, zka_x9], [zka_y1, zka_y42, zka_y45, zka_y47, zka_y40], 0, []),
  (45, [zka_x0, zka_x12, zka_x13, zka_x35, zka_x14, zka_x21, zka_x16], [zka_y1, zka_y42, zka_y45, zka_y39, zka_y48], 0, []),
  (45, [zka_x0, zka_x12, zka_x13, zka_x35, zka_x14, zka_x21, zka_x17], zka_q28, 2, []),
  (45, [zka_x0, zka_x12, zka_x13, zka_x35, zka_x14, zka_x21, zka_x10], [zka_y3, zka_y1, zka_y42, zka_y45, zka_y39, zka_y40, zka_y9], 0, []),
  (45, [zka_x0, zka_x12, zka_x13, zka_x35, zka_x14, zka_x22, zka_x8], zka_q29, 2, []),
  (45, [zka_x0, zka_x12, zka_x13, zka_x35, zka_x14, zka_x22, zka_x9], [zka_y1, zka_y42, zka_y44, zka_y47, zka_y41], 0, []),
  (45, [zka_x0, zka_x12, zka_x13, zka_x35, zka_x14, zka_x22, zka_x16], zka_q29, 2, []),
  (45, [zka_x0, zka_x12, zka_x13, zka_x35, zka_x14, zka_x22, zka_x17], [zka_y1, zka_y42, zka_y44, zka_y39, zka_y49], 0, []),
  (45, [zka_x0, zka_x12, zka_x13, zka_x35, zka_x14, zka_x22, zka_x10], [zka_y3, zka_y1, zka_y42, zka_y44, zka_y39, zka_y41, zka_y9], 0, []),
  (45, [zka_x0, zka_x12, zka_x13, zka_x35, zka_x14, zka_x23, zka_x8], zka_q30, 2, []),
  (45, [zka_x0, zka_x12, zka_x13, zka_x35, zka_x14, zka_x23, zka_x9], zka_q30, 2, []),
  (45, [zka_x0, zka_x12, zka_x13, zka_x35, zka_x14, zka_x23, zka_x16], [zka_y1, zka_y42, zka_y43, zka_y48, zka_y41], 0, []),
  (45, [zka_x0, zka_x12, zka_x13, zka_x35, zka_x14, zka_x23, zka_x17], [zka_y1, zka_y42, zka_y43, zka_y40, zka_y49], 0, []),
  (45, [zka_x0, zka_x12, zka_x13, zka_x35, zka_x14, zka_x23, zka_x10], [zka_y3, zka_y1, zka_y42, zka_y43, zka_y40, zka_y41, zka_y9], 0, []),
  (45, [zka_x0, zka_x12, zka_x13, zka_x35, zka_x14, zka_x24, zka_x8], [zka_y1, zka_y45, zka_y46, zka_y39, zka_y40], 0, []),
  (45, [zka_x0, zka_x12, zka_x13, zka_x35, zka_x14, zka_x24, zka_x9], [zka_y1, zka_y45, zka_y38, zka_y47, zka_y40], 0, []),
  (45, [zka_x0, zka_x12, zka_x13, zka_x35, zka_x14, zka_x24, zka_x16], [zka_y1, zka_y45, zka_y38, zka_y39, zka_y48], 0, []),
  (45, [zka_x0, zka_x12, zka_x13, zka_x35, zka_x14, zka_x24, zka_x17], [zka_y3, zka_y1, zka_y45, zka_y38, zka_y39, zka_y40, zka_y2], 1, []),
  (45, [zka_x0, zka_x12, zka_x13, zka_x35, zka_x14, zka_x24, zka_x10], [zka_y3, zka_y1, zka_y45, zka_y38, zka_y39, zka_y40, zka_y9], 0, []),
  (45, [zka_x0, zka_x12, zka_x13, zka_x35, zka_x14, zka_x25, zka_x8], [zka_y1, zka_y44, zka_y46, zka_y39, zka_y41], 0, []),
  (45, [zka_x0, zka_x12, zka_x13, zka_x35, zka_x14, zka_x25, zka_x9], [zka_y1, zka_y44, zka_y38, zka_y47, zka_y41], 0, []),
  (45, [zka_x0, zka_x12, zka_x13, zka_x35, zka_x14, zka_x25, zka_x16], [zka_y3, zka_y1, zka_y44, zka_y38, zka_y39, zka_y41, zka_y2], 1, []),
  (45, [zka_x0, zka_x12, zka_x13, zka_x35, zka_x14, zka_x25, zka_x17], [zka_y1, zka_y44, zka_y38, zka_y39, zka_y49], 0, []),
  (45, [zka_x0, zka_x12, zka_x13, zka_x35, zka_x14, zka_x25, zka_x10], [zka_y3, zka_y1, zka_y44, zka_y38, zka_y39, zka_y41, zka_y9], 0, []),
  (45, [zka_x0, zka_x12, zka_x13, zka_x35, zka_x14, zka_x26, zka_x8], [zka_y1, zka_y43, zka_y46, zka_y40, zka_y41], 0, []),
  (45, [zka_x0, zka_x12, zka_x13, zka_x35, zka_x14, zka_x26, zka_x9], [zka_y3, zka_y1, zka_y43, zka_y38, zka_y40, zka_y41, zka_y2], 1, []),
  (45, [zka_x0, zka_x12, zka_x13, zka_x35, zka_x14, zka_x26, zka_x16], [zka_y1, zka_y43, zka_y38, zka_y48, zka_y41], 0, []),
  (45, [zka_x0, zka_x12, zka_x13, zka_x35, zka_x14, zka_x26, zka_x17], [zka_y1, zka_y43, zka_y38, zka_y40, zka_y49], 0, []),
  (45, [zka_x0, zka_x12, zka_x13, zka_x35, zka_x14, zka_x26, zka_x10], [zka_y3, zka_y1, zka_y43, zka_y38, zka_y40, zka_y41, zka_y9], 0, []),
  (45, [zka_x0, zka_x12, zka_x13, zka_x35, zka_x14, zka_x27, zka_x8], [zka_y3, zka_y1, zka_y42, zka_y39, zka_y40, zka_y41, zka_y2], 1, []),
  (45, [zka_x0, zka_x12, zka_x13, zka_x35, zka_x14, zka_x27, zka_x9], [zka_y1, zka_y42, zka_y47, zka_y40, zka_y41], 0, []),
  (45, [zka_x0, zka_x12, zka_x13, zka_x35, zka_x14, zka_x27, zka_x16], [zka_y1, zka_y42, zka_y39, zka_y48, zka_y41], 0, []),
  (45, [zka_x0, zka_x12, zka_x13, zka_x35, zka_x14, zka_x27, zka_x17], [zka_y1, zka_y42, zka_y39, zka_y40, zka_y49], 0, []),
  (45, [zka_x0, zka_x12, zka_x13, zka_x35, zka_x14, zka_x27, zka_x10], [zka_y3, zka_y1, zka_y42, zka_y39, zka_y40, zka_y41, zka_y9], 0, []),
  (45, [zka_x0, zka_x12, zka_x13, zka_x35, zka_x14, zka_x28, zka_x8], [zka_y1, zka_y46, zka_y39, zka_y40, zka_y41], 0, []),
  (45, [zka_x0, zka_x12, zka_x13, zka_x35, zka_x14, zka_x28, zka_x9], [zka_y1, zka_y38, zka_y47, zka_y40, zka_y41], 0, []),
  (45, [zka_x0, zka_x12, zka_x13, zka_x35, zka_x14, zka_x28, zka_x16], [zka_y1, zka_y38, zka_y39, zka_y48, zka_y41], 0, []),
  (45, [zka_x0, zka_x12, zka_x13, zka_x35, zka_x14, zka_x28, zka_x17], [zka_y1, zka_y38, zka_y39, zka_y40, zka_y49], 0, []),
  (45, [zka_x0, zka_x12, zka_x13, zka_x35, zka_x14, zka_x28, zka_x10], [zka_y3, zka_y1, zka_y38, zka_y39, zka_y40, zka_y41, zka_y9], 0, [])]) (sp := [(3, 5), (45, 6)]) (fu := 54) (fa_cons (vUq (fA3 0) (by decide)) (fa_cons (vUq tA26 (by decide)) (fa_cons (vUq tA27 (by decide)) (fa_cons (vUq tA28 (by decide)) (fa_cons (vUq tA29 (by decide)) (fa_cons (vUq tA30 (by decide)) (fa_cons (vUq (fA0 0) (by decide)) (fa_cons (vUq tA35 (by decide)) (fa_cons (vUq tA36 (by decide)) (fa_cons (vUq tA8 (by decide)) (fa_cons (vUq tA37 (by decide)) (fa_cons (vUq tA38 (by decide)) (fa_cons (vUq tA13 (by decide)) (fa_cons (vUq tA14 (by decide)) (fa_cons (vUq tA39 (by decide)) (fa_cons (vUq tA40 (by decide)) (fa_cons (vUq tA41 (by decide)) (fa_cons (vUq tA42 (by decide)) (fa_cons (vUq tA43 (by decide)) (fa_cons (vUq tA45 (by decide)) (fa_cons (vUq tA46 (by decide)) (fa_cons (vUq tA47 (by decide)) (fa_cons (vUq tA48 (by decide)) (fa_cons (vUq tA50 (by decide)) (fa_cons (vUq tA19 (by decide)) (fa_cons (vUq tA0 (by decide)) (fa_cons (vUq tA20 (by decide)) (fa_cons (vUq tA51 (by decide)) (fa_cons (vUq tA52 (by decide)) (fa_cons (vUq tA21 (by decide)) (fa_cons (vUq tA22 (by decide)) (fa_cons (vUq tA53 (by decide)) (fa_cons (vUq tA54 (by decide)) (fa_cons (vUq tA55 (by decide)) (fa_cons (vUq tA56 (by decide)) (fa_cons (vUq tA57 (by decide)) (fa_cons (vUq tA58 (by decide)) (fa_cons (vUq tA59 (by decide)) (fa_cons (vUq tA60 (by decide)) (fa_cons (vUq tA61 (by decide)) (fa_cons (vUq tA62 (by decide)) (fa_cons (vUq tA23 (by decide)) (fa_cons (vUq tA24 (by decide)) (fa_cons (vUq tA63 (by decide)) (fa_cons (vUq tA64 (by decide)) (fa_cons (vUq tA65 (by decide)) (fa_cons (vUq tA66 (by decide)) (fa_cons (vUq tA67 (by decide)) (fa_cons (vUq tA68 (by decide)) (fa_cons (vUq tA69 (by decide)) (fa_cons (vUq tA70 (by decide)) (fa_cons (vUq tA71 (by decide)) (fa_cons (vUq tA72 (by decide)) (fa_cons (vUq tA73 (by decide)) (fa_cons (vUq tA74 (by decide)) (fa_cons (vUq tA75 (by decide)) (fa_cons (vUq tA76 (by decide)) (fa_cons (vUq tA77 (by decide)) (fa_cons (vUq tA78 (by decide)) (fa_cons (vUq tA79 (by decide)) (fa_cons (vUq tA80 (by decide)) (fa_cons (vUq tA81 (by decide)) (fa_cons (vUq tA82 (by decide)) (fa_cons (vUq tA83 (by decide)) (fa_cons (vUq tA84 (by decide)) (fa_cons (vUq tA85 (by decide)) (fa_cons (vUq tA86 (by decide)) (fa_cons (vUq tA87 (by decide)) (fa_cons (vUq tA88 (by decide)) (fa_cons (vUq tA89 (by decide)) (fa_cons (vUq tA90 (by decide)) (fa_cons (vUq tA91 (by decide)) (fa_cons (vUq tA92 (by decide)) (fa_cons (vUq tA93 (by decide)) (fa_cons (vUq tA94 (by decide)) (fa_cons (vUq tA95 (by decide)) (fa_cons (vUq tA96 (by decide)) (fa_cons (vUq tA97 (by decide)) (fa_cons (vUq tA98 (by decide)) (fa_cons (vUq tA99 (by decide)) (fa_cons (vUq tA100 (by decide)) (fa_cons (vUq tA101 (by decide)) (fa_cons (vUq tA102 (by decide)) (fa_cons (vUq tA103 (by decide)) (fa_cons (vUq tA104 (by decide)) (fa_nil)))))))))))))))))))))))))))))))))))))))))))))))))))))))))))))))))))))))))))))))))))))) (by decide +kernel)
/-- X12_readClause -/
def tA126c : aCt := (186, [aR [314]], [zka_y3, zka_y34, zka_y31, zka_y32, zka_y1, zka_y24, zka_y25], [(none, [(lLo, lHi)], [zka_y0]), (none, [(lLo, lHi)], ([zka_y34, zka_y32, zka_y33, zka_y3, zka_y24, zka_y25] ++ ([] ++ fkF 1))), (none, [(lLo, lHi)], [zka_y31, zka_y32, zka_y50, zka_y3, zka_y24, zka_y25, zka_y38, zka_y39, zka_y40, zka_y41]), (none, [(lLo, lHi)], [zka_y34, zka_y31, zka_y35, zka_y3, zka_y24, zka_y25])], [(314, 10, 12), (314, 28, 30), (314, 31, 32), (319, 0, 2), (321, 4, 8), (323, 0, 2)])
set_option maxRecDepth 100000 in
theorem tA126 : vC tS tRA jM 12 tA126c := chkF_ok (D := 11) (hst := jM_st (by decide +kernel)) (T := [(fA0c 0), tA0c, tA25c, tA125c, tA121c]) (N := []) (sp := []) (fu := 59) (fa_cons (vUq (fA0 0) (by decide)) (fa_cons (vUq tA0 (by decide)) (fa_cons (vUq tA25 (by decide)) (fa_cons (vUq tA125 (by decide)) (fa_cons (vUq tA121 (by decide)) (fa_nil)))))) (by decide +kernel)
/-- X12_readItems -/
def tA127c : aCt := (185, [aR [314], aI 112 112, aR [323], aI 2 2, aR [1004]], zka_q0, [(none, zka_l5, [zka_y3, zka_y51, zka_y52]), (none, zka_l5, [zka_y0])], [(314, 10, 12), (323, 2, 4)])
set_option maxRecDepth 100000 in
theorem tA127 : vC tS tRA jM 11 tA127c := chkF_ok (D := 10) (hst := jM_st (by decide +kernel)) (T := [(fA3c 0), tA1c, tA2c, tA3c, (fA0c 0), tA6c, tA7c, tA8c, tA9c, tA10c, tA13c, tA14c, tA15c, tA16c, tA18c, tA19c, tA0c, tA20c, tA21c, tA22c, tA23c, tA24c]) (N := [(3, [zka_x0, zka_x1, zka_x2, zka_x36, zka_x4, zka_x5], zka_q0, 5, []),
  (3, [zka_x0, zka_x1, zka_x2, zka_x36, zka_x4, zka_x6], [zka_y3, zka_y1, zka_y53], 4, []),
  (3, [zka_x0, zka_x1, zka_x2, zka_x36, zka_x4, zka_x7], zka_q31, 3, []),
  (45, [zka_x0, zka_x1, zka_x2, zka_x36, zka_x4, zka_x5, zka_x8], zka_q32, 2, []),
  (45, [zka_x0, zka_x1, zka_x2, zka_x36, zka_x4, zka_x5, zka_x9], zka_q32, 2, []),
  (45, [zka_x0, zka_x1, zka_x2, zka_x36, zka_x4, zka_x5, zka_x10], zka_q31, 0, []),
  (45, [zka_x0, zka_x1, zka_x2, zka_x36, zka_x4, zka_x6, zka_x8], [zka_y1, zka_y54, zka_y55], 0, []),
  (45, [zka_x0, zka_x1, zka_x2, zka_x36, zka_x4, zka_x6, zka_x9], [zka_y3, zka_y1, zka_y54, zka_y51, zka_y2], 1, []),
  (45, [zka_x0, zka_x1, zka_x2, zka_x36, zka_x4, zka_x6, zka_x10], [zka_y3, zka_y1, zka_y54, zka_y51, zka_y9], 0, []),
  (45, [zka_x0, zka_x1, zka_x2, zka_x36, zka_x4, zka_x7, zka_x8], [zka_y3, zka_y1, zka_y53, zka_y52, zka_y2], 1, []),
  (45, [zka_x0, zka_x1, zka_x2, zka_x36, zka_x4, zka_x7, zka_x9], [zka_y1, zka_y53, zka_y56], 0, []),
  (45, [zka_x0, zka_x1, zka_x2, zka_x36, zka_x4, zka_x7, zka_x10], [zka_y3, zka_y1, zka_y53, zka_y52, zka_y9], 0, []),
  (45, [zka_x0, zka_x1, zka_x2, zka_x36, zka_x4, zka_x11, zka_x8], [zka_y1, zka_y55, zka_y52], 0, []),
  (45, [zka_x0, zka_x1, zka_x2, zka_x36, zka_x4, zka_x11, zka_x9], [zka_y1, zka_y51, zka_y56], 0, []),
  (45, [zka_x0, zka_x1, zka_x2, zka_x36, zka_x4, zka_x11, zka_x10], [zka_y3, zka_y1, zka_y51, zka_y52, zka_y9], 0, [])]) (sp := [(3, 5), (45, 6)]) (fu := 54) (fa_cons (vUq (fA3 0) (by decide)) (fa_cons (vUq tA1 (by decide)) (fa_cons (vUq tA2 (by decide)) (fa_cons (vUq tA3 (by decide)) (fa_cons (vUq (fA0 0) (by decide)) (fa_cons (vUq tA6 (by decide)) (fa_cons (vUq tA7 (by decide)) (fa_cons (vUq tA8 (by decide)) (fa_cons (vUq tA9 (by decide)) (fa_cons (vUq tA10 (by decide)) (fa_cons (vUq tA13 (by decide)) (fa_cons (vUq tA14 (by decide)) (fa_cons (vUq tA15 (by decide)) (fa_cons (vUq tA16 (by decide)) (fa_cons (vUq tA18 (by decide)) (fa_cons (vUq tA19 (by decide)) (fa_cons (vUq tA0 (by decide)) (fa_cons (vUq tA20 (by decide)) (fa_cons (vUq tA21 (by decide)) (fa_cons (vUq tA22 (by decide)) (fa_cons (vUq tA23 (by decide)) (fa_cons (vUq tA24 (by decide)) (fa_nil))))))))))))))))))))))) (by decide +kernel)
/-- X12_readClause -/
def tA128c : aCt := (186, [aR [314]], [zka_y3, zka_y30, zka_y33, zka_y32, zka_y1, zka_y24, zka_y25], [(none, [(lLo, lHi)], [zka_y0]), (none, [(lLo, lHi)], [zka_y30, zka_y32, zka_y57, zka_y3, zka_y24, zka_y25, zka_y51, zka_y52]), (none, [(lLo, lHi)], ([zka_y33, zka_y32, zka_y34, zka_y3, zka_y24, zka_y25] ++ (rdF 1))), (none, [(lLo, lHi)], [zka_y30, zka_y33, zka_y35, zka_y3, zka_y24, zka_y25])], [(314, 10, 12), (314, 28, 30), (314, 31, 32), (319, 0, 2), (321, 0, 4), (323, 2, 4)])
set_option maxRecDepth 100000 in
theorem tA128 : vC tS tRA jM 12 tA128c := chkF_ok (D := 11) (hst := jM_st (by decide +kernel)) (T := [(fA0c 0), tA0c, tA127c, tA105c, tA121c]) (N := []) (sp := []) (fu := 59) (fa_cons (vUq (fA0 0) (by decide)) (fa_cons (vUq tA0 (by decide)) (fa_cons (vUq tA127 (by decide)) (fa_cons (vUq tA105 (by decide)) (fa_cons (vUq tA121 (by decide)) (fa_nil)))))) (by decide +kernel)
/-- X12_readClause -/
def tA129c : aCt := (186, [aR [314]], [zka_y3, zka_y34, zka_y31, zka_y35, zka_y1, zka_y24, zka_y25], [(none, [(lLo, lHi)], [zka_y0]), (none, [(lLo, lHi)], ([zka_y34, zka_y35, zka_y33, zka_y3, zka_y24, zka_y25] ++ ([] ++ fkF 1))), (none, [(lLo, lHi)], [zka_y31, zka_y35, zka_y50, zka_y3, zka_y24, zka_y25, zka_y38, zka_y39, zka_y40, zka_y41])], [(314, 10, 12), (314, 28, 30), (321, 4, 8), (323, 0, 2)])
set_option maxRecDepth 100000 in
theorem tA129 : vC tS tRA jM 12 tA129c := chkF_ok (D := 11) (hst := jM_st (by decide +kernel)) (T := [(fA0c 0), tA0c, tA25c, tA125c]) (N := []) (sp := []) (fu := 59) (fa_cons (vUq (fA0 0) (by decide)) (fa_cons (vUq tA0 (by decide)) (fa_cons (vUq tA25 (by decide)) (fa_cons (vUq tA125 (by decide)) (fa_nil))))) (by decide +kernel)
/-- X12_readClause -/
def tA130c : aCt := (186, [aR [314]], [zka_y3, zka_y30, zka_y33, zka_y35, zka_y1, zka_y24, zka_y25], [(none, [(lLo, lHi)], [zka_y0]), (none, [(lLo, lHi)], [zka_y30, zka_y35, zka_y57, zka_y3, zka_y24, zka_y25, zka_y51, zka_y52]), (none, [(lLo, lHi)], ([zka_y33, zka_y35, zka_y34, zka_y3, zka_y24, zka_y25] ++ (rdF 1)))], [(314, 10, 12), (314, 28, 30), (321, 0, 4), (323, 2, 4)])
set_option maxRecDepth 100000 in
theorem tA130 : vC tS tRA jM 12 tA130c := chkF_ok (D := 11) (hst := jM_st (by decide +kernel)) (T := [(fA0c 0), tA0c, tA127c, tA105c]) (N := []) (sp := []) (fu := 59) (fa_cons (vUq (fA0 0) (by decide)) (fa_cons (vUq tA0 (by decide)) (fa_cons (vUq tA127 (by decide)) (fa_cons (vUq tA105 (by decide)) (fa_nil))))) (by decide +kernel)
/-- X12_readItems -/
def tA131c : aCt := (185, [aR [314], aI 101 101, aR [321], aI 8 8, aR [1003]], zka_q0, [(none, zka_l5, [zka_y3, zka_y58, zka_y59, zka_y60, zka_y61]), (none, zka_l5, [zka_y0])], [(314, 10, 12), (321, 8, 12)])
set_option maxRecDepth 100000 in
theorem tA131 : vC tS tRA jM 11 tA131c := chkF_ok (D := 10) (hst := jM_st (by decide +kernel)) (T := [(fA3c 0), tA26c, tA27c, tA28c, tA29c, tA30c, (fA0c 0), tA35c, tA36c, tA8c, tA37c, tA38c, tA13c, tA14c, tA39c, tA40c, tA41c, tA42c, tA43c, tA45c, tA46c, tA47c, tA48c, tA50c, tA19c, tA0c, tA20c, tA51c, tA52c, tA21c, tA22c, tA53c, tA54c, tA55c, tA56c, tA57c, tA58c, tA59c, tA60c, tA61c, tA62c, tA23c, tA24c, tA63c, tA64c, tA65c, tA66c, tA67c, tA68c, tA69c, tA70c, tA71c, tA72c, tA73c, tA74c, tA75c, tA76c, tA77c, tA78c, tA79c, tA80c, tA81c, tA82c, tA83c, tA84c, tA85c, tA86c, tA87c, tA88c, tA89c, tA90c, tA91c, tA92c, tA93c, tA94c, tA95c, tA96c, tA97c, tA98c, tA99c, tA100c, tA101c, tA102c, tA103c, tA104c]) (N := [(3, [zka_x0, zka_x12, zka_x13, zka_x37, zka_x14, zka_x5], zka_q0, 9, []),
  (3, [zka_x0, zka_x12, zka_x13, zka_x37, zka_x14, zka_x6], [zka_y3, zka_y1, zka_y62], 8, []),
  (3, [zka_x0, zka_x12, zka_x13, zka_x37, zka_x14, zka_x7], [zka_y3, zka_y1, zka_y62, zka_y63], 7, []),
  (3, [zka_x0, zka_x12, zka_x13, zka_x37, zka_x14, zka_x11], [zka_y3, zka_y1, zka_y62, zka_y63, zka_y64], 6, []),
  (3, [zka_x0, zka_x12, zka_x13, zka_x37, zka_x14, zka_x15], zka_q33, 5, []),
  (45, [zka_x0, zka_x12, zka_x13, zka_x37, zka_x14, zka_x5, zka_x8], zka_q34, 4, []),
  (45, [zka_x0, zka_x12, zka_x13, zka_x37, zka_x14, zka_x5, zka_x9], zka_q34, 4, []),
  (45, [zka_x0, zka_x12, zka_x13, zka_x37, zka_x14, zka_x5, zka_x16], zka_q34, 4, []),
  (45, [zka_x0, zka_x12, zka_x13, zka_x37, zka_x14, zka_x5, zka_x17], zka_q34, 4, []),
  (45, [zka_x0, zka_x12, zka_x13, zka_x37, zka_x14, zka_x5, zka_x10], zka_q33, 0, []),
  (45, [zka_x0, zka_x12, zka_x13, zka_x37, zka_x14, zka_x6, zka_x8], [zka_y1, zka_y63, zka_y64, zka_y65, zka_y66], 0, []),
  (45, [zka_x0, zka_x12, zka_x13, zka_x37, zka_x14, zka_x6, zka_x9], zka_q35, 3, []),
  (45, [zka_x0, zka_x12, zka_x13, zka_x37, zka_x14, zka_x6, zka_x16], zka_q35, 3, []),
  (45, [zka_x0, zka_x12, zka_x13, zka_x37, zka_x14, zka_x6, zka_x17], zka_q35, 3, []),
  (45, [zka_x0, zka_x12, zka_x13, zka_x37, zka_x14, zka_x6, zka_x10], [zka_y3, zka_y1, zka_y63, zka_y64, zka_y65, zka_y58, zka_y9], 0, []),
  (45, [zka_x0, zka_x12, zka_x13, zka_x37, zka_x14, zka_x7, zka_x8], zka_q36, 3, []),
  (45, [zka_x0, zka_x12, zka_x13, zka_x37, zka_x14, zka_x7, zka_x9], [zka_y1, zka_y62, zka_y64, zka_y65, zka_y67], 0, []),
  (45, [zka_x0, zka_x12, zka_x13, zka_x37, zka_x14, zka_x7, zka_x16], zka_q36, 3, []),
  (45, [zka_x0, zka_x12, zka_x13, zka_x37, zka_x14, zka_x7, zka_x17], zka_q36, 3, []),
  (45, [zka_x0, zka_x12, zka_x13, zka_x37, zka_x14, zka_x7, zka_x10], [zka_y3, zka_y1, zka_y62, zka_y64, zka_y65, zka_y59, zka_y9], 0, []),
  (45, [zka_x0, zka_x12, zka_x13, zka_x37, zka_x14, zka_x15, zka_x8], zka_q37, 3, []),
  (45, [zka_x0, zka_x12, zka_x13, zka_x37, zka_x14, zka_x15, zka_x9], zka_q37, 3, []),
  (45, [zka_x0, zka_x12, zka_x13, zka_x37, zka_x14, zka_x15, zka_x16], [zka_y1, zka_y62, zka_y63, zka_y65, zka_y68], 0, []),
  (45, [zka_x0, zka_x12, zka_x13, zka_x37, zka_x14, zka_x15, zka_x17], zka_q37, 3, []),
  (45, [zka_x0, zka_x12, zka_x13, zka_x37, zka_x14, zka_x15, zka_x10], [zka_y3, zka_y1, zka_y62, zka_y63, zka_y65, zka_y60, zka_y9], 0, []),
  (45, [zka_x0, zka_x12, zka_x13, zka_x37, zka_x14, zka_x18, zka_x8], zka_q38, 3, []),
  (45, [zka_x0, zka_x12, zka_x13, zka_x37, zka_x14, zka_x18, zka_x9], zka_q38, 3, []),
  (45, [zka_x0, zka_x12, zka_x13, zka_x37, zka_x14, zka_x18, zka_x16], zka_q38, 3, []),
  (45, [zka_x0, zka_x12, zka_x13, zka_x37, zka_x14, zka_x18, zka_x17], [zka_y1, zka_y62, zka_y63, zka_y64, zka_y69], 0, []),
  (45, [zka_x0, zka_x12, zka_x13, zka_x37, zka_x14, zka_x18, zka_x10], [zka_y3, zka_y1, zka_y62, zka_y63, zka_y64, zka_y61, zka_y9], 0, []),
  (45, [zka_x0, zka_x12, zka_x13, zka_x37, zka_x14, zka_x11, zka_x8], [zka_y1, zka_y64, zka_y65, zka_y66, zka_y59], 0, []),
  (45, [zka_x0, zka_x12, zka_x13, zka_x37, zka_x14, zka_x11, zka_x9], [zka_y1, zka_y64, zka_y65, zka_y58, zka_y67], 0, []),
  (45, [zka_x0, zka_x12, zka_x13, zka_x37, zka_x14, zka_x11, zka_x16], zka_q39, 2, []),
  (45, [zka_x0, zka_x12, zka_x13, zka_x37, zka_x14, zka_x11, zka_x17], zka_q39, 2, []),
  (45, [zka_x0, zka_x12, zka_x13, zka_x37, zka_x14, zka_x11, zka_x10], [zka_y3, zka_y1, zka_y64, zka_y65, zka_y58, zka_y59, zka_y9], 0, []),
  (45, [zka_x0, zka_x12, zka_x13, zka_x37, zka_x14, zka_x19, zka_x8], [zka_y1, zka_y63, zka_y65, zka_y66, zka_y60], 0, []),
  (45, [zka_x0, zka_x12, zka_x13, zka_x37, zka_x14, zka_x19, zka_x9], zka_q40, 2, []),
  (45, [zka_x0, zka_x12, zka_x13, zka_x37, zka_x14, zka_x19, zka_x16], [zka_y1, zka_y63, zka_y65, zka_y58, zka_y68], 0, []),
  (45, [zka_x0, zka_x12, zka_x13, zka_x37, zka_x14, zka_x19, zka_x17], zka_q40, 2, []),
  (45, [zka_x0, zka_x12, zka_x13, zka_x37, zka_x14, zka_x19, zka_x10], [zka_y3, zka_y1, zka_y63, zka_y65, zka_y58, zka_y60, zka_y9], 0, []),
  (45, [zka_x0, zka_x12, zka_x13, zka_x37, zka_x14, zka_x20, zka_x8], [zka_y1, zka_y63, zka_y64, zka_y66, zka_y61], 0, []),
  (45, [zka_x0, zka_x12, zka_x13, zka_x37, zka_x14, zka_x20, zka_x9], zka_q41, 2, []),
  (45, [zka_x0, zka_x12, zka_x13, zka_x37, zka_x14, zka_x20, zka_x16], zka_q41, 2, []),
  (45, [zka_x0, zka_x12, zka_x13, zka_x37, zka_x14, zka_x20, zka_x17], [zka_y1, zka_y63, zka_y64, zka_y58, zka_y69], 0, []),
  (45, [zka_x0, zka_x12, zka_x13, zka_x37, zka_x14, zka_x20, zka_x10], [zka_y3, zka_y1, zka_y63, zka_y64, zka_y58, zka_y61, zka_y9], 0, []),
  (45, [zka_x0, zka_x12, zka_x13, zka_x37, zka_x14, zka_x21, zka_x8], zka_q42, 2, []),
  (45, [zka_x0, zka_x12, zka_x13, zka_x37, zka_x14, zka_x21, zka_x9], [zka_y1, zka_y62, zka_y65, zka_y67, zka_y60], 0, []),
  (45, [zka_x0, zka_x12, zka_x13, zka_x37, zka_x14, zka_x21, zka_x16], [zka_y1, zka_y62, zka_y65, zka_y59, zka_y68], 0, []),
  (45, [zka_x0, zka_x12, zka_x13, zka_x37, zka_x14, zka_x21, zka_x17], zka_q42, 2, []),
  (45, [zka_x0, zka_x12, zka_x13, zka_x37, zka_x14, zka_x21, zka_x10], [zka_y3, zka_y1, zka_y62, zka_y65, zka_y59, zka_y60, zka_y9], 0, []),
  (45, [zka_x0, zka_x12, zka_x13, zka_x37, zka_x14, zka_x22, zka_x8], zka_q43, 2, []),
  (45, [zka_x0, zka_x12, zka_x13, zka_x37, zka_x14, zka_x22, zka_x9], [zka_y1, zka_y62, zka_y64, zka_y67, zka_y61], 0, []),
  (45, [zka_x0, zka_x12, zka_x13, zka_x37, zka_x14, zka_x22, zka_x16], zka_q43, 2, []),
  (45, [zka_x0, zka_x12, zka_x13, zka_x37, zka_x14, zka_x22, zka_x17], [zka_y1, zka_y62, zka_y64, zka_y59, zka_y69], 0, []),
  (45, [zka_x0, zka_x12, zka_x13, zka_x37, zka_x14, zka_x22, zka_x10], [zka_y3, zka_y1, zka_y62, zka_y64, zka_y59, zka_y61, zka_y9], 0, []),
  (45, [zka_x0, zka_x12, zka_x13, zka_x37, zka_x14, zka_x23, zka_x8], zka_q44, 2, []),
  (45, [zka_x0, zka_x12, zka_x13, zka_x37, zka_x14, zka_x23, zka_x9], zka_q44, 2, []),
  (45, [zka_x0, zka_x12, zka_x13, zka_x37, zka_x14, zka_x23, zka_x16], [zka_y1, zka_y62, zka_y63, zka_y68, zka_y61], 0, []),
  (45, [zka_x0, zka_x12, zka_x13, zka_x37, zka_x14, zka_x23, zka_x17], [zka_y1, zka_y62, zka_y63, zka_y60, zka_y69], 0, []),
  (45, [zka_x0, zka_x12, zka_x13, zka_x37, zka_x14, zka_x23, zka_x10], [zka_y3, zka_y1, zka_y62, zka_y63, zka_y60, zka_y61, zka_y9], 0, []),
  (45, [zka_x0, zka_x12, zka_x13, zka_x37, zka_x14, zka_x24, zka_x8], [zka_y1, zka_y65, zka_y66, zka_y59, zka_y60], 0, []),
  (45, [zka_x0, zka_x12, zka_x13, zka_x37, zka_x14, zka_x24, zka_x9], [zka_y1, zka_y65, zka_y58, zka_y67, zka_y60], 0, []),
  (45, [zka_x0, zka_x12, zka_x13, zka_x37, zka_x14, zka_x24, zka_x16], [zka_y1, zka_y65, zka_y58, zka_y59, zka_y68], 0, []),
  (45, [zka_x0, zka_x12, zka_x13, zka_x37, zka_x14, zka_x24, zka_x17], [zka_y3, zka_y1, zka_y65, zka_y58, zka_y59, zka_y60, zka_y2], 1, []),
  (45, [zka_x0, zka_x12, zka_x13, zka_x37, zka_x14, zka_x24, zka_x10], [zka_y3, zka_y1, zka_y65, zka_y58, zka_y59, zka_y60, zka_y9], 0, []),
  (45, [zka_x0, zka_x12, zka_x13, zka_x37, zka_x14, zka_x25, zka_x8], [zka_y1, zka_y64, zka_y66, zka_y59, zka_y61], 0, []),
  (45, [zka_x0, zka_x12, zka_x13, zka_x37, zka_x14, zka_x25, zka_x9], [zka_y1, zka_y64, zka_y58, zka_y67, zka_y61], 0, []),
  (45, [zka_x0, zka_x12, zka_x13, zka_x37, zka_x14, zka_x25, zka_x16], [zka_y3, zka_y1, zka_y64, zka_y58, zka_y59, zka_y61, zka_y2], 1, []),
  (45, [zka_x0, zka_x12, zka_x13, zka_x37, zka_x14, zka_x25, zka_x17], [zka_y1, zka_y64, zka_y58, zka_y59, zka_y69], 0, []),
  (45, [zka_x0, zka_x12, zka_x13, zka_x37, zka_x14, zka_x25, zka_x10], [zka_y3, zka_y1, zka_y64, zka_y58, zka_y59, zka_y61, zka_y9], 0, []),
  (45, [zka_x0, zka_x12, zka_x13, zka_x37, zka_x14, zka_x26, zka_x8], [zka_y1, zka_y63, zka_y66, zka_y60, zka_y61], 0, []),
  (45, [zka_x0, zka_x12, zka_x13, zka_x37, zka_x14, zka_x26, zka_x9], [zka_y3, zka_y1, zka_y63, zka_y58, zka_y60, zka_y61, zka_y2], 1, []),
  (45, [zka_x0, zka_x12, zka_x13, zka_x37, zka_x14, zka_x26, zka_x16], [zka_y1, zka_y63, zka_y58, zka_y68, zka_y61], 0, []),
  (45, [zka_x0, zka_x12, zka_x13, zka_x37, zka_x14, zka_x26, zka_x17], [zka_y1, zka_y63, zka_y58, zka_y60, zka_y69], 0, []),
  (45, [zka_x0, zka_x12, zka_x13, zka_x37, zka_x14, zka_x26, zka_x10], [zka_y3, zka_y1, zka_y63, zka_y58, zka_y60, zka_y61, zka_y9], 0, []),
  (45, [zka_x0, zka_x12, zka_x13, zka_x37, zka_x14, zka_x27, zka_x8], [zka_y3, zka_y1, zka_y62, zka_y59, zka_y60, zka_y61, zka_y2], 1, []),
  (45, [zka_x0, zka_x12, zka_x13, zka_x37, zka_x14, zka_x27, zka_x9], [zka_y1, zka_y62, zka_y67, zka_y60, zka_y61], 0, []),
  (45, [zka_x0, zka_x12, zka_x13, zka_x37, zka_x14, zka_x27, zka_x16], [zka_y1, zka_y62, zka_y59, zka_y68, zka_y61], 0, []),
  (45, [zka_x0, zka_x12, zka_x13, zka_x37, zka_x14, zka_x27, zka_x17], [zka_y1, zka_y62, zka_y59, zka_y60, zka_y69], 0, []),
  (45, [zka_x0, zka_x12, zka_x13, zka_x37, zka_x14, zka_x27, zka_x10], [zka_y3, zka_y1, zka_y62, zka_y59, zka_y60, zka_y61, zka_y9], 0, []),
  (45, [zka_x0, zka_x12, zka_x13, zka_x37, zka_x14, zka_x28, zka_x8], [zka_y1, zka_y66, zka_y59, zka_y60, zka_y61], 0, []),
  (45, [zka_x0, zka_x12, zka_x13, zka_x37, zka_x14, zka_x28, zka_x9], [zka_y1, zka_y58, zka_y67, zka_y60, zka_y61], 0, []),
  (45, [zka_x0, zka_x12, zka_x13, zka_x37, zka_x14, zka_x28, zka_x16], [zka_y1, zka_y58, zka_y59, zka_y68, zka_y61], 0, []),
  (45, [zka_x0, zka_x12, zka_x13, zka_x37, zka_x14, zka_x28, zka_x17], [zka_y1, zka_y58, zka_y59, zka_y60, zka_y69], 0, []),
  (45, [zka_x0, zka_x12, zka_x13, zka_x37, zka_x14, zka_x28, zka_x10], [zka_y3, zka_y1, zka_y58, zka_y59, zka_y60, zka_y61, zka_y9], 0, [])]) (sp := [(3, 5), (45, 6)]) (fu := 54) (fa_cons (vUq (fA3 0) (by decide)) (fa_cons (vUq tA26 (by decide)) (fa_cons (vUq tA27 (by decide)) (fa_cons (vUq tA28 (by decide)) (fa_cons (vUq tA29 (by decide)) (fa_cons (vUq tA30 (by decide)) (fa_cons (vUq (fA0 0) (by decide)) (fa_cons (vUq tA35 (by decide)) (fa_cons (vUq tA36 (by decide)) (fa_cons (vUq tA8 (by decide)) (fa_cons (vUq tA37 (by decide)) (fa_cons (vUq tA38 (by decide)) (fa_cons (vUq tA13 (by decide)) (fa_cons (vUq tA14 (by decide)) (fa_cons (vUq tA39 (by decide)) (fa_cons (vUq tA40 (by decide)) (fa_cons (vUq tA41 (by decide)) (fa_cons (vUq tA42 (by decide)) (fa_cons (vUq tA43 (by decide)) (fa_cons (vUq tA45 (by decide)) (fa_cons (vUq tA46 (by decide)) (fa_cons (vUq tA47 (by decide)) (fa_cons (vUq tA48 (by decide)) (fa_cons (vUq tA50 (by decide)) (fa_cons (vUq tA19 (by decide)) (fa_cons (vUq tA0 (by decide)) (fa_cons (vUq tA20 (by decide)) (fa_cons (vUq tA51 (by decide)) (fa_cons (vUq tA52 (by decide)) (fa_cons (vUq tA21 (by decide)) (fa_cons (vUq tA22 (by decide)) (fa_cons (vUq tA53 (by decide)) (fa_cons (vUq tA54 (by decide)) (fa_cons (vUq tA55 (by decide)) (fa_cons (vUq tA56 (by decide)) (fa_cons (vUq tA57 (by decide)) (fa_cons (vUq tA58 (by decide)) (fa_cons (vUq tA59 (by decide)) (fa_cons (vUq tA60 (by decide)) (fa_cons (vUq tA61 (by decide)) (fa_cons (vUq tA62 (by decide)) (fa_cons (vUq tA23 (by decide)) (fa_cons (vUq tA24 (by decide)) (fa_cons (vUq tA63 (by decide)) (fa_cons (vUq tA64 (by decide)) (fa_cons (vUq tA65 (by decide)) (fa_cons (vUq tA66 (by decide)) (fa_cons (vUq tA67 (by decide)) (fa_cons (vUq tA68 (by decide)) (fa_cons (vUq tA69 (by decide)) (fa_cons (vUq tA70 (by decide)) (fa_cons (vUq tA71 (by decide)) (fa_cons (vUq tA72 (by decide)) (fa_cons (vUq tA73 (by decide)) (fa_cons (vUq tA74 (by decide)) (fa_cons (vUq tA75 (by decide)) (fa_cons (vUq tA76 (by decide)) (fa_cons (vUq tA77 (by decide)) (fa_cons (vUq tA78 (by decide)) (fa_cons (vUq tA79 (by decide)) (fa_cons (vUq tA80 (by decide)) (fa_cons (vUq tA81 (by decide)) (fa_cons (vUq tA82 (by decide)) (fa_cons (vUq tA83 (by decide)) (fa_cons (vUq tA84 (by decide)) (fa_cons (vUq tA85 (by decide)) (fa_cons (vUq tA86 (by decide)) (fa_cons (vUq tA87 (by decide)) (fa_cons (vUq tA88 (by decide)) (fa_cons (vUq tA89 (by decide)) (fa_cons (vUq tA90 (by decide)) (fa_cons (vUq tA91 (by decide)) (fa_cons (vUq tA92 (by decide)) (fa_cons (vUq tA93 (by decide)) (fa_cons (vUq tA94 (by decide)) (fa_cons (vUq tA95 (by decide)) (fa_cons (vUq tA96 (by decide)) (fa_cons (vUq tA97 (by decide)) (fa_cons (vUq tA98 (by decide)) (fa_cons (vUq tA99 (by decide)) (fa_cons (vUq tA100 (by decide)) (fa_cons (vUq tA101 (by decide)) (fa_cons (vUq tA102 (by decide)) (fa_cons (vUq tA103 (by decide)) (fa_cons (vUq tA104 (by decide)) (fa_nil)))))))))))))))))))))))))))))))))))))))))))))))))))))))))))))))))))))))))))))))))))))) (by decide +kernel)
/-- X12_readClause -/
def tA132c : aCt := (186, [aR [314]], [zka_y3, zka_y50, zka_y31, zka_y32, zka_y1, zka_y24, zka_y25], [(none, [(lLo, lHi)], [zka_y0]), (none, [(lLo, lHi)], ([zka_y50, zka_y32, zka_y33, zka_y3, zka_y24, zka_y25] ++ ([] ++ fkF 1))), (none, [(lLo, lHi)], [zka_y31, zka_y32, zka_y70, zka_y3, zka_y24, zka_y25, zka_y58, zka_y59, zka_y60, zka_y61]), (none, [(lLo, lHi)], [zka_y50, zka_y31, zka_y35, zka_y3, zka_y24, zka_y25])], [(314, 10, 12), (314, 28, 30), (314, 31, 32), (319, 0, 2), (321, 8, 12), (323, 0, 2)])
set_option maxRecDepth 100000 in
theorem tA132 : vC tS tRA jM 12 tA132c := chkF_ok (D := 11) (hst := jM_st (by decide +kernel)) (T := [(fA0c 0), tA0c, tA25c, tA131c, tA121c]) (N := []) (sp := []) (fu := 59) (fa_cons (vUq (fA0 0) (by decide)) (fa_cons (vUq tA0 (by decide)) (fa_cons (vUq tA25 (by decide)) (fa_cons (vUq tA131 (by decide)) (fa_cons (vUq tA121 (by decide)) (fa_nil)))))) (by decide +kernel)
/-- X12_readClause -/
def tA133c : aCt := (186, [aR [314]], [zka_y3, zka_y34, zka_y33, zka_y32, zka_y1, zka_y24, zka_y25], [(none, [(lLo, lHi)], [zka_y0]), (none, [(lLo, lHi)], [zka_y34, zka_y32, zka_y57, zka_y3, zka_y24, zka_y25, zka_y51, zka_y52]), (none, [(lLo, lHi)], [zka_y33, zka_y32, zka_y50, zka_y3, zka_y24, zka_y25, zka_y38, zka_y39, zka_y40, zka_y41]), (none, [(lLo, lHi)], [zka_y34, zka_y33, zka_y35, zka_y3, zka_y24, zka_y25])], [(314, 10, 12), (314, 28, 30), (314, 31, 32), (319, 0, 2), (321, 4, 8), (323, 2, 4)])
set_option maxRecDepth 100000 in
theorem tA133 : vC tS tRA jM 12 tA133c := chkF_ok (D := 11) (hst := jM_st (by decide +kernel)) (T := [(fA0c 0), tA0c, tA127c, tA125c, tA121c]) (N := []) (sp := []) (fu := 59) (fa_cons (vUq (fA0 0) (by decide)) (fa_cons (vUq tA0 (by decide)) (fa_cons (vUq tA127 (by decide)) (fa_cons (vUq tA125 (by decide)) (fa_cons (vUq tA121 (by decide)) (fa_nil)))))) (by decide +kernel)
