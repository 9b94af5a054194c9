/-! L2: the town is read, tx0 -/
def zox_x0 : Nat × aV := (0, aR [314])
def zox_x1 : Nat × aV := (3, aI 0 0)
def zox_x2 : Nat × aV := (3, aI 1 1)
def zox_x3 : Nat × aV := (3, aI 2 2)
def zox_x4 : Nat × aV := (3, aI 3 3)
def zox_x5 : Nat × aV := (3, aI 4 4)
def zox_x6 : Nat × aV := (3, aI 5 5)
def zox_x7 : Nat × aV := (3, aI 6 6)
def zox_x8 : Nat × aV := (3, aI 7 7)
def zox_x9 : Nat × aV := (3, aI 8 8)
def zox_x10 : Nat × aV := (3, aI 0 208)
def zox_x11 : Nat × aV := (3, aI 0 12)
def zox_y0 : Nat × Nat × Int × Int := (314, 28, 1, 0)
def zox_y1 : Nat × Nat × Int × Int := (314, 29, 1, 0)
def zox_y2 : Nat × Nat × Int × Int := (314, 11, (-1), (-1))
def zox_y3 : Nat × Nat × Int × Int := (319, 0, 2, 8)
def zox_y4 : Nat × Nat × Int × Int := (319, 1, 0, 99)
def zox_y5 : Nat × Nat × Int × Int := (314, 28, 1, 1)
def zox_y6 : Nat × Nat × Int × Int := (314, 29, 1, 1)
def zox_y7 : Nat × Nat × Int × Int := (314, 28, 2, 2)
def zox_y8 : Nat × Nat × Int × Int := (314, 29, 2, 2)
def zox_y9 : Nat × Nat × Int × Int := (314, 28, 3, 3)
def zox_y10 : Nat × Nat × Int × Int := (314, 29, 3, 3)
def zox_y11 : Nat × Nat × Int × Int := (314, 28, 4, 4)
def zox_y12 : Nat × Nat × Int × Int := (314, 29, 4, 4)
def zox_y13 : Nat × Nat × Int × Int := (314, 28, 5, 5)
def zox_y14 : Nat × Nat × Int × Int := (314, 28, 6, 6)
def zox_y15 : Nat × Nat × Int × Int := (314, 28, 7, 7)
def zox_y16 : Nat × Nat × Int × Int := (314, 28, 8, 8)
def zox_y17 : Nat × Nat × Int × Int := (314, 28, 9, 9)
def zox_y18 : Nat × Nat × Int × Int := (314, 28, 10, 10)
def zox_y19 : Nat × Nat × Int × Int := (314, 28, 11, 11)
def zox_y20 : Nat × Nat × Int × Int := (314, 28, 12, 12)
def zox_y21 : Nat × Nat × Int × Int := (314, 25, 2, 8)
def zox_y22 : Nat × Nat × Int × Int := (314, 26, 1, 1)
def zox_y23 : Nat × Nat × Int × Int := (314, 27, 1, 1)
def zox_y24 : Nat × Nat × Int × Int := (314, 26, 2, 2)
def zox_y25 : Nat × Nat × Int × Int := (314, 27, 2, 2)
def zox_y26 : Nat × Nat × Int × Int := (314, 26, 3, 3)
def zox_y27 : Nat × Nat × Int × Int := (314, 27, 3, 3)
def zox_y28 : Nat × Nat × Int × Int := (314, 26, 4, 4)
def zox_y29 : Nat × Nat × Int × Int := (314, 27, 4, 4)
def zox_y30 : Nat × Nat × Int × Int := (314, 26, 5, 5)
def zox_y31 : Nat × Nat × Int × Int := (314, 26, 6, 6)
def zox_y32 : Nat × Nat × Int × Int := (314, 26, 7, 7)
def zox_y33 : Nat × Nat × Int × Int := (314, 26, 8, 8)
def zox_y34 : Nat × Nat × Int × Int := (314, 26, 9, 9)
def zox_y35 : Nat × Nat × Int × Int := (314, 26, 10, 10)
def zox_y36 : Nat × Nat × Int × Int := (314, 26, 11, 11)
def zox_y37 : Nat × Nat × Int × Int := (314, 26, 12, 12)
def zox_y38 : Nat × Nat × Int × Int := (322, 0, 0, 7)
def zox_y39 : Nat × Nat × Int × Int := (322, 1, 0, 9)
def zox_y40 : Nat × Nat × Int × Int := (322, 2, 0, 7)
def zox_y41 : Nat × Nat × Int × Int := (322, 3, 0, 9)
def zox_y42 : Nat × Nat × Int × Int := (322, 4, 0, 7)
def zox_y43 : Nat × Nat × Int × Int := (322, 5, 0, 9)
def zox_y44 : Nat × Nat × Int × Int := (322, 6, 0, 7)
def zox_y45 : Nat × Nat × Int × Int := (322, 7, 0, 9)
def zox_l2 : List (Int × Int) := [(lLo, lHi), (lLo, lHi)]
def zox_p0 : aLs := [zox_x0, zox_x1]
def zox_p1 : aLs := [zox_x0, zox_x2]
def zox_p2 : aLs := [zox_x0, zox_x3]
def zox_p3 : aLs := [zox_x0, zox_x4]
def zox_p4 : aLs := [zox_x0, zox_x5]
def zox_p5 : aLs := [zox_x0, zox_x6]
def zox_p6 : aLs := [zox_x0, zox_x7]
def zox_p7 : aLs := [zox_x0, zox_x8]
def zox_p8 : aLs := [zox_x0, zox_x9]
def zox_p9 : aLs := [zox_x0, zox_x10]
def zox_p10 : aLs := [zox_x0, zox_x11]
def zox_q0 : aFs := [zox_y23, zox_y4]
def zox_q1 : aFs := [zox_y23, zox_y4, zox_y38, zox_y39]
def zox_q2 : aFs := [zox_y25, zox_y4]
def zox_q3 : aFs := [zox_y25, zox_y4, zox_y38, zox_y39, zox_y40, zox_y41]
def zox_q4 : aFs := [zox_y27, zox_y4]
def zox_q5 : aFs := [zox_y27, zox_y4, zox_y38, zox_y39, zox_y40, zox_y41, zox_y42, zox_y43]
def zox_q6 : aFs := [zox_y29, zox_y4]
def zox_q7 : aFs := [zox_y29, zox_y4, zox_y38, zox_y39, zox_y40, zox_y41, zox_y42, zox_y43, zox_y44, zox_y45]
def t0c : aCt := (191, [aR [314], aI 0 0], [], [(some (aI (-1) (-1)), zox_l2, [])], [(314, 0, 1), (314, 6, 7), (314, 8, 12), (314, 28, 30), (314, 31, 32), (319, 0, 2), (321, 0, 48), (323, 0, 8)])
def t0V : List aNd := [(204, [zox_x0], [zox_y0, zox_y1, zox_y2, zox_y3, zox_y4], 0, []),
  (204, [zox_x0], ([zox_y1, zox_y5, zox_y2, zox_y3, zox_y4] ++ (rdF 1)), 0, []),
  (204, [zox_x0], ([zox_y0, zox_y6, zox_y2, zox_y3, zox_y4] ++ ([] ++ fkF 1)), 0, []),
  (204, [zox_x0], ([zox_y1, zox_y7, zox_y2, zox_y3, zox_y4] ++ (rdF 2)), 0, []),
  (204, [zox_x0], ([zox_y0, zox_y8, zox_y2, zox_y3, zox_y4] ++ ([] ++ fkF 2)), 0, []),
  (204, [zox_x0], ([zox_y1, zox_y9, zox_y2, zox_y3, zox_y4] ++ (rdF 3)), 0, []),
  (204, [zox_x0], ([zox_y0, zox_y10, zox_y2, zox_y3, zox_y4] ++ ([] ++ fkF 3)), 0, []),
  (204, [zox_x0], ([zox_y1, zox_y11, zox_y2, zox_y3, zox_y4] ++ (rdF 4)), 0, []),
  (204, [zox_x0], ([zox_y0, zox_y12, zox_y2, zox_y3, zox_y4] ++ ([] ++ fkF 4)), 0, []),
  (204, [zox_x0], ([zox_y1, zox_y13, zox_y2, zox_y3, zox_y4] ++ (rdF 5)), 0, []),
  (204, [zox_x0], ([zox_y1, zox_y14, zox_y2, zox_y3, zox_y4] ++ (rdF 6)), 0, []),
  (204, [zox_x0], ([zox_y1, zox_y15, zox_y2, zox_y3, zox_y4] ++ (rdF 7)), 0, []),
  (204, [zox_x0], ([zox_y1, zox_y16, zox_y2, zox_y3, zox_y4] ++ (rdF 8)), 0, []),
  (204, [zox_x0], ([zox_y1, zox_y17, zox_y2, zox_y3, zox_y4] ++ (rdF 9)), 0, []),
  (204, [zox_x0], ([zox_y1, zox_y18, zox_y2, zox_y3, zox_y4] ++ (rdF 10)), 0, []),
  (204, [zox_x0], ([zox_y1, zox_y19, zox_y2, zox_y3, zox_y4] ++ (rdF 11)), 0, []),
  (204, [zox_x0], ([zox_y1, zox_y20, zox_y2, zox_y3, zox_y4] ++ (rdF 12)), 0, [])]
def t0X : List aNd := [(204, [zox_x0], ([zox_y5, zox_y6, zox_y2, zox_y3, zox_y4] ++ (rdF 1 ++ fkF 1)), 0, []),
  (204, [zox_x0], ([zox_y7, zox_y6, zox_y2, zox_y3, zox_y4] ++ (rdF 2 ++ fkF 1)), 0, []),
  (204, [zox_x0], ([zox_y5, zox_y8, zox_y2, zox_y3, zox_y4] ++ (rdF 1 ++ fkF 2)), 0, []),
  (204, [zox_x0], ([zox_y9, zox_y6, zox_y2, zox_y3, zox_y4] ++ (rdF 3 ++ fkF 1)), 0, []),
  (204, [zox_x0], ([zox_y7, zox_y8, zox_y2, zox_y3, zox_y4] ++ (rdF 2 ++ fkF 2)), 0, []),
  (204, [zox_x0], ([zox_y5, zox_y10, zox_y2, zox_y3, zox_y4] ++ (rdF 1 ++ fkF 3)), 0, []),
  (204, [zox_x0], ([zox_y11, zox_y6, zox_y2, zox_y3, zox_y4] ++ (rdF 4 ++ fkF 1)), 0, []),
  (204, [zox_x0], ([zox_y9, zox_y8, zox_y2, zox_y3, zox_y4] ++ (rdF 3 ++ fkF 2)), 0, []),
  (204, [zox_x0], ([zox_y7, zox_y10, zox_y2, zox_y3, zox_y4] ++ (rdF 2 ++ fkF 3)), 0, []),
  (204, [zox_x0], ([zox_y5, zox_y12, zox_y2, zox_y3, zox_y4] ++ (rdF 1 ++ fkF 4)), 0, []),
  (204, [zox_x0], ([zox_y13, zox_y6, zox_y2, zox_y3, zox_y4] ++ (rdF 5 ++ fkF 1)), 0, []),
  (204, [zox_x0], ([zox_y11, zox_y8, zox_y2, zox_y3, zox_y4] ++ (rdF 4 ++ fkF 2)), 0, []),
  (204, [zox_x0], ([zox_y9, zox_y10, zox_y2, zox_y3, zox_y4] ++ (rdF 3 ++ fkF 3)), 0, []),
  (204, [zox_x0], ([zox_y7, zox_y12, zox_y2, zox_y3, zox_y4] ++ (rdF 2 ++ fkF 4)), 0, []),
  (204, [zox_x0], ([zox_y14, zox_y6, zox_y2, zox_y3, zox_y4] ++ (rdF 6 ++ fkF 1)), 0, []),
  (204, [zox_x0], ([zox_y13, zox_y8, zox_y2, zox_y3, zox_y4] ++ (rdF 5 ++ fkF 2)), 0, []),
  (204, [zox_x0], ([zox_y11, zox_y10, zox_y2, zox_y3, zox_y4] ++ (rdF 4 ++ fkF 3)), 0, []),
  (204, [zox_x0], ([zox_y9, zox_y12, zox_y2, zox_y3, zox_y4] ++ (rdF 3 ++ fkF 4)), 0, []),
  (204, [zox_x0], ([zox_y15, zox_y6, zox_y2, zox_y3, zox_y4] ++ (rdF 7 ++ fkF 1)), 0, []),
  (204, [zox_x0], ([zox_y14, zox_y8, zox_y2, zox_y3, zox_y4] ++ (rdF 6 ++ fkF 2)), 0, []),
  (204, [zox_x0], ([zox_y13, zox_y10, zox_y2, zox_y3, zox_y4] ++ (rdF 5 ++ fkF 3)), 0, []),
  (204, [zox_x0], ([zox_y11, zox_y12, zox_y2, zox_y3, zox_y4] ++ (rdF 4 ++ fkF 4)), 0, []),
  (204, [zox_x0], ([zox_y16, zox_y6, zox_y2, zox_y3, zox_y4] ++ (rdF 8 ++ fkF 1)), 0, []),
  (204, [zox_x0], ([zox_y15, zox_y8, zox_y2, zox_y3, zox_y4] ++ (rdF 7 ++ fkF 2)), 0, []),
  (204, [zox_x0], ([zox_y14, zox_y10, zox_y2, zox_y3, zox_y4] ++ (rdF 6 ++ fkF 3)), 0, []),
  (204, [zox_x0], ([zox_y13, zox_y12, zox_y2, zox_y3, zox_y4] ++ (rdF 5 ++ fkF 4)), 0, []),
  (204, [zox_x0], ([zox_y17, zox_y6, zox_y2, zox_y3, zox_y4] ++ (rdF 9 ++ fkF 1)), 0, []),
  (204, [zox_x0], ([zox_y16, zox_y8, zox_y2, zox_y3, zox_y4] ++ (rdF 8 ++ fkF 2)), 0, []),
  (204, [zox_x0], ([zox_y15, zox_y10, zox_y2, zox_y3, zox_y4] ++ (rdF 7 ++ fkF 3)), 0, []),
  (204, [zox_x0], ([zox_y14, zox_y12, zox_y2, zox_y3, zox_y4] ++ (rdF 6 ++ fkF 4)), 0, []),
  (204, [zox_x0], ([zox_y18, zox_y6, zox_y2, zox_y3, zox_y4] ++ (rdF 10 ++ fkF 1)), 0, []),
  (204, [zox_x0], ([zox_y17, zox_y8, zox_y2, zox_y3, zox_y4] ++ (rdF 9 ++ fkF 2)), 0, []),
  (204, [zox_x0], ([zox_y16, zox_y10, zox_y2, zox_y3, zox_y4] ++ (rdF 8 ++ fkF 3)), 0, []),
  (204, [zox_x0], ([zox_y15, zox_y12, zox_y2, zox_y3, zox_y4] ++ (rdF 7 ++ fkF 4)), 0, []),
  (204, [zox_x0], ([zox_y19, zox_y6, zox_y2, zox_y3, zox_y4] ++ (rdF 11 ++ fkF 1)), 0, []),
  (204, [zox_x0], ([zox_y18, zox_y8, zox_y2, zox_y3, zox_y4] ++ (rdF 10 ++ fkF 2)), 0, []),
  (204, [zox_x0], ([zox_y17, zox_y10, zox_y2, zox_y3, zox_y4] ++ (rdF 9 ++ fkF 3)), 0, []),
  (204, [zox_x0], ([zox_y16, zox_y12, zox_y2, zox_y3, zox_y4] ++ (rdF 8 ++ fkF 4)), 0, []),
  (204, [zox_x0], ([zox_y20, zox_y6, zox_y2, zox_y3, zox_y4] ++ (rdF 12 ++ fkF 1)), 0, []),
  (204, [zox_x0], ([zox_y19, zox_y8, zox_y2, zox_y3, zox_y4] ++ (rdF 11 ++ fkF 2)), 0, []),
  (204, [zox_x0], ([zox_y18, zox_y10, zox_y2, zox_y3, zox_y4] ++ (rdF 10 ++ fkF 3)), 0, []),
  (204, [zox_x0], ([zox_y17, zox_y12, zox_y2, zox_y3, zox_y4] ++ (rdF 9 ++ fkF 4)), 0, []),
  (204, [zox_x0], ([zox_y20, zox_y8, zox_y2, zox_y3, zox_y4] ++ (rdF 12 ++ fkF 2)), 0, []),
  (204, [zox_x0], ([zox_y19, zox_y10, zox_y2, zox_y3, zox_y4] ++ (rdF 11 ++ fkF 3)), 0, []),
  (204, [zox_x0], ([zox_y18, zox_y12, zox_y2, zox_y3, zox_y4] ++ (rdF 10 ++ fkF 4)), 0, []),
  (204, [zox_x0], ([zox_y20, zox_y10, zox_y2, zox_y3, zox_y4] ++ (rdF 12 ++ fkF 3)), 0, []),
  (204, [zox_x0], ([zox_y19, zox_y12, zox_y2, zox_y3, zox_y4] ++ (rdF 11 ++ fkF 4)), 0, []),
  (204, [zox_x0], ([zox_y20, zox_y12, zox_y2, zox_y3, zox_y4] ++ (rdF 12 ++ fkF 4)), 0, [])]
def t0T : List aCt := [ux0c, ux1c]
theorem t0h : ∀ t ∈ t0T, vC tS tR jM 820 t := fa_cons (vUq ux0 (by decide)) (fa_cons (vUq ux1 (by decide)) (fa_nil))
set_option maxRecDepth 100000 in
theorem t0e : (chkC0 t0c && ((t0V ++ t0X).all wfN && wkA tS tR t0T t0c (argP 0 t0c.2.1) (t0V ++ t0X) [] none 40 false 0 (tagL (argL 0 t0c.2.1)) [] t0c.2.2.1)) = true := by
  rw [← wkAF_eq]
  decide +kernel
theorem t0v : t0V.all (fun x => vacF x.2.2.1) = true := by decide +kernel
def t2c : aCt := (191, [aR [314], aI 0 0], [], [], [(314, 25, 28)])
def t0Y : List aNd := [(232, zox_p0, ([zox_y5, zox_y6, zox_y2, zox_y3, zox_y4, zox_y21, zox_y22, zox_y23] ++ (rdF 1 ++ fkF 1)), 0, []),
  (232, zox_p0, ([zox_y7, zox_y6, zox_y2, zox_y3, zox_y4, zox_y21, zox_y24, zox_y23] ++ (rdF 2 ++ fkF 1)), 0, []),
  (232, zox_p0, ([zox_y5, zox_y8, zox_y2, zox_y3, zox_y4, zox_y21, zox_y22, zox_y25] ++ (rdF 1 ++ fkF 2)), 0, []),
  (232, zox_p0, ([zox_y9, zox_y6, zox_y2, zox_y3, zox_y4, zox_y21, zox_y26, zox_y23] ++ (rdF 3 ++ fkF 1)), 0, []),
  (232, zox_p0, ([zox_y7, zox_y8, zox_y2, zox_y3, zox_y4, zox_y21, zox_y24, zox_y25] ++ (rdF 2 ++ fkF 2)), 0, []),
  (232, zox_p0, ([zox_y5, zox_y10, zox_y2, zox_y3, zox_y4, zox_y21, zox_y22, zox_y27] ++ (rdF 1 ++ fkF 3)), 0, []),
  (232, zox_p0, ([zox_y11, zox_y6, zox_y2, zox_y3, zox_y4, zox_y21, zox_y28, zox_y23] ++ (rdF 4 ++ fkF 1)), 0, []),
  (232, zox_p0, ([zox_y9, zox_y8, zox_y2, zox_y3, zox_y4, zox_y21, zox_y26, zox_y25] ++ (rdF 3 ++ fkF 2)), 0, []),
  (232, zox_p0, ([zox_y7, zox_y10, zox_y2, zox_y3, zox_y4, zox_y21, zox_y24, zox_y27] ++ (rdF 2 ++ fkF 3)), 0, []),
  (232, zox_p0, ([zox_y5, zox_y12, zox_y2, zox_y3, zox_y4, zox_y21, zox_y22, zox_y29] ++ (rdF 1 ++ fkF 4)), 0, []),
  (232, zox_p0, ([zox_y13, zox_y6, zox_y2, zox_y3, zox_y4, zox_y21, zox_y30, zox_y23] ++ (rdF 5 ++ fkF 1)), 0, []),
  (232, zox_p0, ([zox_y11, zox_y8, zox_y2, zox_y3, zox_y4, zox_y21, zox_y28, zox_y25] ++ (rdF 4 ++ fkF 2)), 0, []),
  (232, zox_p0, ([zox_y9, zox_y10, zox_y2, zox_y3, zox_y4, zox_y21, zox_y26, zox_y27] ++ (rdF 3 ++ fkF 3)), 0, []),
  (232, zox_p0, ([zox_y7, zox_y12, zox_y2, zox_y3, zox_y4, zox_y21, zox_y24, zox_y29] ++ (rdF 2 ++ fkF 4)), 0, []),
  (232, zox_p0, ([zox_y14, zox_y6, zox_y2, zox_y3, zox_y4, zox_y21, zox_y31, zox_y23] ++ (rdF 6 ++ fkF 1)), 0, []),
  (232, zox_p0, ([zox_y13, zox_y8, zox_y2, zox_y3, zox_y4, zox_y21, zox_y30, zox_y25] ++ (rdF 5 ++ fkF 2)), 0, []),
  (232, zox_p0, ([zox_y11, zox_y10, zox_y2, zox_y3, zox_y4, zox_y21, zox_y28, zox_y27] ++ (rdF 4 ++ fkF 3)), 0, []),
  (232, zox_p0, ([zox_y9, zox_y12, zox_y2, zox_y3, zox_y4, zox_y21, zox_y26, zox_y29] ++ (rdF 3 ++ fkF 4)), 0, []),
  (232, zox_p0, ([zox_y15, zox_y6, zox_y2, zox_y3, zox_y4, zox_y21, zox_y32, zox_y23] ++ (rdF 7 ++ fkF 1)), 0, []),
  (232, zox_p0, ([zox_y14, zox_y8, zox_y2, zox_y3, zox_y4, zox_y21, zox_y31, zox_y25] ++ (rdF 6 ++ fkF 2)), 0, []),
  (232, zox_p0, ([zox_y13, zox_y10, zox_y2, zox_y3, zox_y4, zox_y21, zox_y30, zox_y27] ++ (rdF 5 ++ fkF 3)), 0, []),
  (232, zox_p0, ([zox_y11, zox_y12, zox_y2, zox_y3, zox_y4, zox_y21, zox_y28, zox_y29] ++ (rdF 4 ++ fkF 4)), 0, []),
  (232, zox_p0, ([zox_y16, zox_y6, zox_y2, zox_y3, zox_y4, zox_y21, zox_y33, zox_y23] ++ (rdF 8 ++ fkF 1)), 0, []),
  (232, zox_p0, ([zox_y15, zox_y8, zox_y2, zox_y3, zox_y4, zox_y21, zox_y32, zox_y25] ++ (rdF 7 ++ fkF 2)), 0, []),
  (232, zox_p0, ([zox_y14, zox_y10, zox_y2, zox_y3, zox_y4, zox_y21, zox_y31, zox_y27] ++ (rdF 6 ++ fkF 3)), 0, []),
  (232, zox_p0, ([zox_y13, zox_y12, zox_y2, zox_y3, zox_y4, zox_y21, zox_y30, zox_y29] ++ (rdF 5 ++ fkF 4)), 0, []),
  (232, zox_p0, ([zox_y17, zox_y6, zox_y2, zox_y3, zox_y4, zox_y21, zox_y34, zox_y23] ++ (rdF 9 ++ fkF 1)), 0, []),
  (232, zox_p0, ([zox_y16, zox_y8, zox_y2, zox_y3, zox_y4, zox_y21, zox_y33, zox_y25] ++ (rdF 8 ++ fkF 2)), 0, []),
  (232, zox_p0, ([zox_y15, zox_y10, zox_y2, zox_y3, zox_y4, zox_y21, zox_y32, zox_y27] ++ (rdF 7 ++ fkF 3)), 0, []),
  (232, zox_p0, ([zox_y14, zox_y12, zox_y2, zox_y3, zox_y4, zox_y21, zox_y31, zox_y29] ++ (rdF 6 ++ fkF 4)), 0, []),
  (232, zox_p0, ([zox_y18, zox_y6, zox_y2, zox_y3, zox_y4, zox_y21, zox_y35, zox_y23] ++ (rdF 10 ++ fkF 1)), 0, []),
  (232, zox_p0, ([zox_y17, zox_y8, zox_y2, zox_y3, zox_y4, zox_y21, zox_y34, zox_y25] ++ (rdF 9 ++ fkF 2)), 0, []),
  (232, zox_p0, ([zox_y16, zox_y10, zox_y2, zox_y3, zox_y4, zox_y21, zox_y33, zox_y27] ++ (rdF 8 ++ fkF 3)), 0, []),
  (232, zox_p0, ([zox_y15, zox_y12, zox_y2, zox_y3, zox_y4, zox_y21, zox_y32, zox_y29] ++ (rdF 7 ++ fkF 4)), 0, []),
  (232, zox_p0, ([zox_y19, zox_y6, zox_y2, zox_y3, zox_y4, zox_y21, zox_y36, zox_y23] ++ (rdF 11 ++ fkF 1)), 0, []),
  (232, zox_p0, ([zox_y18, zox_y8, zox_y2, zox_y3, zox_y4, zox_y21, zox_y35, zox_y25] ++ (rdF 10 ++ fkF 2)), 0, []),
  (232, zox_p0, ([zox_y17, zox_y10, zox_y2, zox_y3, zox_y4, zox_y21, zox_y34, zox_y27] ++ (rdF 9 ++ fkF 3)), 0, []),
  (232, zox_p0, ([zox_y16, zox_y12, zox_y2, zox_y3, zox_y4, zox_y21, zox_y33, zox_y29] ++ (rdF 8 ++ fkF 4)), 0, []),
  (232, zox_p0, ([zox_y20, zox_y6, zox_y2, zox_y3, zox_y4, zox_y21, zox_y37, zox_y23] ++ (rdF 12 ++ fkF 1)), 0, []),
  (232, zox_p0, ([zox_y19, zox_y8, zox_y2, zox_y3, zox_y4, zox_y21, zox_y36, zox_y25] ++ (rdF 11 ++ fkF 2)), 0, []),
  (232, zox_p0, ([zox_y18, zox_y10, zox_y2, zox_y3, zox_y4, zox_y21, zox_y35, zox_y27] ++ (rdF 10 ++ fkF 3)), 0, []),
  (232, zox_p0, ([zox_y17, zox_y12, zox_y2, zox_y3, zox_y4, zox_y21, zox_y34, zox_y29] ++ (rdF 9 ++ fkF 4)), 0, []),
  (232, zox_p0, ([zox_y20, zox_y8, zox_y2, zox_y3, zox_y4, zox_y21, zox_y37, zox_y25] ++ (rdF 12 ++ fkF 2)), 0, []),
  (232, zox_p0, ([zox_y19, zox_y10, zox_y2, zox_y3, zox_y4, zox_y21, zox_y36, zox_y27] ++ (rdF 11 ++ fkF 3)), 0, []),
  (232, zox_p0, ([zox_y18, zox_y12, zox_y2, zox_y3, zox_y4, zox_y21, zox_y35, zox_y29] ++ (rdF 10 ++ fkF 4)), 0, []),
  (232, zox_p0, ([zox_y20, zox_y10, zox_y2, zox_y3, zox_y4, zox_y21, zox_y37, zox_y27] ++ (rdF 12 ++ fkF 3)), 0, []),
  (232, zox_p0, ([zox_y19, zox_y12, zox_y2, zox_y3, zox_y4, zox_y21, zox_y36, zox_y29] ++ (rdF 11 ++ fkF 4)), 0, []),
  (232, zox_p0, ([zox_y20, zox_y12, zox_y2, zox_y3, zox_y4, zox_y21, zox_y37, zox_y29] ++ (rdF 12 ++ fkF 4)), 0, [])]
noncomputable def chkJ (F : aFs) : Bool := (List.range 12).all (fun e => ile (rd1 tS F 314 26).2 e || ((ile 0 (rd1 tS F 321 (4 * e)).1 && ile (rd1 tS F 321 (4 * e)).2 7) && ((ile 0 (rd1 tS F 321 (4 * e + 1)).1 && ile (rd1 tS F 321 (4 * e + 1)).2 7) && (ile 0 (rd1 tS F 321 (4 * e + 2)).1 && ile (rd1 tS F 321 (4 * e + 2)).2 40)))) && (ile (rd1 tS F 314 26).2 0 || (ile 1 (rd1 tS F 314 27).1 && ile 2 (rd1 tS F 314 25).1))
def z1N_0 : List aNd := [(256, [zox_x0], (zox_q0 ++ ([] ++ fkF 1)), 235, []),
  (258, zox_p0, (zox_q0 ++ ([] ++ fkF 1)), 234, []),
  (258, zox_p1, ([zox_y23, zox_y4, zox_y38] ++ ([] ++ fkF 1)), 233, []),
  (258, zox_p2, (zox_q1 ++ ([] ++ fkF 1)), 232, []),
  (258, zox_p3, (zox_q1 ++ ([] ++ fkF 1)), 231, []),
  (258, zox_p4, (zox_q1 ++ ([] ++ fkF 1)), 230, []),
  (258, zox_p5, (zox_q1 ++ ([] ++ fkF 1)), 229, []),
  (258, zox_p6, (zox_q1 ++ ([] ++ fkF 1)), 228, []),
  (258, zox_p7, (zox_q1 ++ ([] ++ fkF 1)), 227, []),
  (258, zox_p8, (zox_q1 ++ ([] ++ fkF 1)), 226, []),
  (284, zox_p9, (zox_q1 ++ ([] ++ fkF 1)), 17, [(3, 1, 208, true)]),
  (306, zox_p0, (zox_q1 ++ ([] ++ fkF 1)), 16, []),
  (306, zox_p1, (zox_q1 ++ ([] ++ fkF 1)), 15, []),
  (306, zox_p2, (zox_q1 ++ ([] ++ fkF 1)), 14, []),
  (339, zox_p10, (zox_q1 ++ ([] ++ fkF 1)), 1, [(3, 1, 12, true)])]
def z1N : List aNd := z1N_0
def z2N_0 : List aNd := [(256, [zox_x0], (zox_q2 ++ ([] ++ fkF 2)), 237, []),
  (258, zox_p0, (zox_q2 ++ ([] ++ fkF 2)), 236, []),
  (258, zox_p1, ([zox_y25, zox_y4, zox_y38] ++ ([] ++ fkF 2)), 235, []),
  (258, zox_p2, ([zox_y25, zox_y4, zox_y38, zox_y39] ++ ([] ++ fkF 2)), 234, []),
  (258, zox_p3, ([zox_y25, zox_y4, zox_y38, zox_y39, zox_y40] ++ ([] ++ fkF 2)), 233, []),
  (258, zox_p4, (zox_q3 ++ ([] ++ fkF 2)), 232, []),
  (258, zox_p5, (zox_q3 ++ ([] ++ fkF 2)), 231, []),
  (258, zox_p6, (zox_q3 ++ ([] ++ fkF 2)), 230, []),
  (258, zox_p7, (zox_q3 ++ ([] ++ fkF 2)), 229, []),
  (258, zox_p8, (zox_q3 ++ ([] ++ fkF 2)), 228, []),
  (284, zox_p9, (zox_q3 ++ ([] ++ fkF 2)), 19, [(3, 1, 208, true)]),
  (306, zox_p0, (zox_q3 ++ ([] ++ fkF 2)), 18, []),
  (306, zox_p1, (zox_q3 ++ ([] ++ fkF 2)), 17, []),
  (306, zox_p2, (zox_q3 ++ ([] ++ fkF 2)), 16, []),
  (306, zox_p3, (zox_q3 ++ ([] ++ fkF 2)), 15, []),
  (306, zox_p4, (zox_q3 ++ ([] ++ fkF 2)), 14, []),
  (339, zox_p10, (zox_q3 ++ ([] ++ fkF 2)), 1, [(3, 1, 12, true)])]
def z2N : List aNd := z2N_0
def z3N_0 : List aNd := [(256, [zox_x0], (zox_q4 ++ ([] ++ fkF 3)), 239, []),
  (258, zox_p0, (zox_q4 ++ ([] ++ fkF 3)), 238, []),
  (258, zox_p1, ([zox_y27, zox_y4, zox_y38] ++ ([] ++ fkF 3)), 237, []),
  (258, zox_p2, ([zox_y27, zox_y4, zox_y38, zox_y39] ++ ([] ++ fkF 3)), 236, []),
  (258, zox_p3, ([zox_y27, zox_y4, zox_y38, zox_y39, zox_y40] ++ ([] ++ fkF 3)), 235, []),
  (258, zox_p4, ([zox_y27, zox_y4, zox_y38, zox_y39, zox_y40, zox_y41] ++ ([] ++ fkF 3)), 234, []),
  (258, zox_p5, ([zox_y27, zox_y4, zox_y38, zox_y39, zox_y40, zox_y41, zox_y42] ++ ([] ++ fkF 3)), 233, []),
  (258, zox_p6, (zox_q5 ++ ([] ++ fkF 3)), 232, []),
  (258, zox_p7, (zox_q5 ++ ([] ++ fkF 3)), 231, []),
  (258, zox_p8, (zox_q5 ++ ([] ++ fkF 3)), 230, []),
  (284, zox_p9, (zox_q5 ++ ([] ++ fkF 3)), 21, [(3, 1, 208, true)]),
  (306, zox_p0, (zox_q5 ++ ([] ++ fkF 3)), 20, []),
  (306, zox_p1, (zox_q5 ++ ([] ++ fkF 3)), 19, []),
  (306, zox_p2, (zox_q5 ++ ([] ++ fkF 3)), 18, []),
  (306, zox_p3, (zox_q5 ++ ([] ++ fkF 3)), 17, []),
  (306, zox_p4, (zox_q5 ++ ([] ++ fkF 3)), 16, []),
  (306, zox_p5, (zox_q5 ++ ([] ++ fkF 3)), 15, []),
  (306, zox_p6, (zox_q5 ++ ([] ++ fkF 3)), 14, []),
  (339, zox_p10, (zox_q5 ++ ([] ++ fkF 3)), 1, [(3, 1, 12, true)])]
def z3N : List aNd := z3N_0
def z4N_0 : List aNd := [(256, [zox_x0], (zox_q6 ++ ([] ++ fkF 4)), 241, []),
  (258, zox_p0, (zox_q6 ++ ([] ++ fkF 4)), 240, []),
  (258, zox_p1, ([zox_y29, zox_y4, zox_y38] ++ ([] ++ fkF 4)), 239, []),
  (258, zox_p2, ([zox_y29, zox_y4, zox_y38, zox_y39] ++ ([] ++ fkF 4)), 238, []),
  (258, zox_p3, ([zox_y29, zox_y4, zox_y38, zox_y39, zox_y40] ++ ([] ++ fkF 4)), 237, []),
  (258, zox_p4, ([zox_y29, zox_y4, zox_y38, zox_y39, zox_y40, zox_y41] ++ ([] ++ fkF 4)), 236, []),
  (258, zox_p5, ([zox_y29, zox_y4, zox_y38, zox_y39, zox_y40, zox_y41, zox_y42] ++ ([] ++ fkF 4)), 235, []),
  (258, zox_p6, ([zox_y29, zox_y4, zox_y38, zox_y39, zox_y40, zox_y41, zox_y42, zox_y43] ++ ([] ++ fkF 4)), 234, []),
  (258, zox_p7, ([zox_y29, zox_y4, zox_y38, zox_y39, zox_y40, zox_y41, zox_y42, zox_y43, zox_y44] ++ ([] ++ fkF 4)), 233, []),
  (258, zox_p8, (zox_q7 ++ ([] ++ fkF 4)), 232, []),
  (284, zox_p9, (zox_q7 ++ ([] ++ fkF 4)), 23, [(3, 1, 208, true)]),
  (306, zox_p0, (zox_q7 ++ ([] ++ fkF 4)), 22, []),
  (306, zox_p1, (zox_q7 ++ ([] ++ fkF 4)), 21, []),
  (306, zox_p2, (zox_q7 ++ ([] ++ fkF 4)), 20, []),
  (306, zox_p3, (zox_q7 ++ ([] ++ fkF 4)), 19, []),
  (306, zox_p4, (zox_q7 ++ ([] ++ fkF 4)), 18, []),
  (306, zox_p5, (zox_q7 ++ ([] ++ fkF 4)), 17, []),
  (306, zox_p6, (zox_q7 ++ ([] ++ fkF 4)), 16, []),
  (306, zox_p7, (zox_q7 ++ ([] ++ fkF 4)), 15, []),
  (306, zox_p8, (zox_q7 ++ ([] ++ fkF 4)), 14, []),
  (339, zox_p10, (zox_q7 ++ ([] ++ fkF 4)), 1, [(3, 1, 12, true)])]
def z4N : List aNd := z4N_0
def t3c : aCt := (191, [aR [314], aI 0 0], [], [(some (aI 0 12), zox_l2, [])], [(314, 42, 43), (314, 51, 52), (314, 53, 54), (322, 0, 8), (326, 0, 208)])
set_option maxRecDepth 100000 in
theorem z1n : ((z1N ++ []).all wfN && z1N.all (chkR tS tR 31 [] t3c [(258, 3), (306, 3)] (z1N ++ []))) = true := by
  rw [← chkRF_eq]
  decide +kernel
set_option maxRecDepth 100000 in
theorem z2n : ((z2N ++ []).all wfN && z2N.all (chkR tS tR 31 [] t3c [(258, 3), (306, 3)] (z2N ++ []))) = true := by
  rw [← chkRF_eq]
  decide +kernel
set_option maxRecDepth 100000 in
theorem z3n : ((z3N ++ []).all wfN && z3N.all (chkR tS tR 31 [] t3c [(258, 3), (306, 3)] (z3N ++ []))) = true := by
  rw [← chkRF_eq]
  decide +kernel
set_option maxRecDepth 100000 in
theorem z4n : ((z4N ++ []).all wfN && z4N.all (chkR tS tR 31 [] t3c [(258, 3), (306, 3)] (z4N ++ []))) = true := by
  rw [← chkRF_eq]
  decide +kernel
def zF (p : Nat) : aFs := (match p with
  | 1 => ([(314, 27, 1, 1), (319, 1, 0, 99)] ++ ([] ++ fkF 1))
  | 2 => ([(314, 27, 2, 2), (319, 1, 0, 99)] ++ ([] ++ fkF 2))
  | 3 => ([(314, 27, 3, 3), (319, 1, 0, 99)] ++ ([] ++ fkF 3))
  | 4 => ([(314, 27, 4, 4), (319, 1, 0, 99)] ++ ([] ++ fkF 4))
  | _ => [])
noncomputable def yOk (q : aNd × aNd) : Bool := Nat.beq q.1.1 204 && (Nat.beq q.2.1 232 && (wfN q.2 && (chkX tS tR 24 [] t2c [] [q.2] q.1 && (chkJ q.2.2.2.1 && ((List.range 4).any (fun p => fLe tS q.2.2.2.1 (zF (p + 1))) && lLe q.2.2.1 [(0, aR [314]), (3, aI 0 0)])))))
set_option maxRecDepth 100000 in
theorem t0y : (List.zip t0X t0Y).all yOk = true := by decide +kernel
theorem t0l : t0X.length = t0Y.length := by decide +kernel
theorem zF_320 : ∀ p, p < 4 → (zF (p + 1)).all (fun f => !(Nat.beq f.1 320)) = true := by decide +kernel
