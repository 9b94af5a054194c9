/-! L2: the town is read, townB -/
def zlb_x0 : Nat × aV := (0, aR [314])
def zlb_x1 : Nat × aV := (1, aI 112 112)
def zlb_x2 : Nat × aV := (2, aR [323])
def zlb_x3 : Nat × aV := (3, aI 4 4)
def zlb_x4 : Nat × aV := (4, aR [1004])
def zlb_x5 : Nat × aV := (5, aI 0 0)
def zlb_x6 : Nat × aV := (5, aI 1 1)
def zlb_x7 : Nat × aV := (5, aI 2 2)
def zlb_x8 : Nat × aV := (6, aI 0 0)
def zlb_x9 : Nat × aV := (6, aI 1 1)
def zlb_x10 : Nat × aV := (6, aI (-1) (-1))
def zlb_x11 : Nat × aV := (5, aI 3 3)
def zlb_x12 : Nat × aV := (1, aI 101 101)
def zlb_x13 : Nat × aV := (2, aR [321])
def zlb_x14 : Nat × aV := (3, aI 12 12)
def zlb_x15 : Nat × aV := (4, aR [1003])
def zlb_x16 : Nat × aV := (5, aI 4 4)
def zlb_x17 : Nat × aV := (6, aI 2 2)
def zlb_x18 : Nat × aV := (6, aI 3 3)
def zlb_x19 : Nat × aV := (5, aI 8 8)
def zlb_x20 : Nat × aV := (5, aI 5 5)
def zlb_x21 : Nat × aV := (5, aI 9 9)
def zlb_x22 : Nat × aV := (5, aI 6 6)
def zlb_x23 : Nat × aV := (5, aI 10 10)
def zlb_x24 : Nat × aV := (5, aI 12 12)
def zlb_x25 : Nat × aV := (5, aI 7 7)
def zlb_x26 : Nat × aV := (5, aI 11 11)
def zlb_x27 : Nat × aV := (5, aI 13 13)
def zlb_x28 : Nat × aV := (5, aI 14 14)
def zlb_x29 : Nat × aV := (5, aI 15 15)
def zlb_x30 : Nat × aV := (3, aI 6 6)
def zlb_x31 : Nat × aV := (3, aI 16 16)
def zlb_x32 : Nat × aV := (3, aI 20 20)
def zlb_x33 : Nat × aV := (3, aI 24 24)
def zlb_x34 : Nat × aV := (3, aI 28 28)
def zlb_x35 : Nat × aV := (3, aI 32 32)
def zlb_x36 : Nat × aV := (3, aI 36 36)
def zlb_x37 : Nat × aV := (3, aI 40 40)
def zlb_x38 : Nat × aV := (3, aI 44 44)
def zlb_y0 : Nat × Nat × Int × Int := (314, 11, (-1), (-1))
def zlb_y1 : Nat × Nat × Int × Int := (314, 8, 0, 0)
def zlb_y2 : Nat × Nat × Int × Int := (323, 4, 0, 7)
def zlb_y3 : Nat × Nat × Int × Int := (323, 5, 0, 9)
def zlb_y4 : Nat × Nat × Int × Int := (314, 11, 0, 241)
def zlb_y5 : Nat × Nat × Int × Int := (323, 4, 0, 0)
def zlb_y6 : Nat × Nat × Int × Int := (323, 5, 4, 4)
def zlb_y7 : Nat × Nat × Int × Int := (314, 10, 0, 239)
def zlb_y8 : Nat × Nat × Int × Int := (323, 4, (-539), 2277)
def zlb_y9 : Nat × Nat × Int × Int := (314, 10, 0, 240)
def zlb_y10 : Nat × Nat × Int × Int := (323, 5, (-539), 2277)
def zlb_y11 : Nat × Nat × Int × Int := (314, 28, 0, 0)
def zlb_y12 : Nat × Nat × Int × Int := (314, 29, 2, 2)
def zlb_y13 : Nat × Nat × Int × Int := (314, 31, 0, 0)
def zlb_y14 : Nat × Nat × Int × Int := (319, 0, 2, 8)
def zlb_y15 : Nat × Nat × Int × Int := (319, 1, 0, 99)
def zlb_y16 : Nat × Nat × Int × Int := (314, 29, 3, 3)
def zlb_y17 : Nat × Nat × Int × Int := (314, 28, 1, 1)
def zlb_y18 : Nat × Nat × Int × Int := (314, 31, 1, 1)
def zlb_y19 : Nat × Nat × Int × Int := (314, 28, 2, 2)
def zlb_y20 : Nat × Nat × Int × Int := (314, 29, 0, 0)
def zlb_y21 : Nat × Nat × Int × Int := (314, 29, 1, 1)
def zlb_y22 : Nat × Nat × Int × Int := (314, 28, 3, 3)
def zlb_y23 : Nat × Nat × Int × Int := (321, 8, 0, 7)
def zlb_y24 : Nat × Nat × Int × Int := (321, 9, 0, 7)
def zlb_y25 : Nat × Nat × Int × Int := (321, 10, 1, 40)
def zlb_y26 : Nat × Nat × Int × Int := (321, 11, 0, 1)
def zlb_y27 : Nat × Nat × Int × Int := (323, 2, 0, 7)
def zlb_y28 : Nat × Nat × Int × Int := (323, 3, 0, 9)
def zlb_y29 : Nat × Nat × Int × Int := (321, 4, 0, 7)
def zlb_y30 : Nat × Nat × Int × Int := (321, 5, 0, 7)
def zlb_y31 : Nat × Nat × Int × Int := (321, 6, 1, 40)
def zlb_y32 : Nat × Nat × Int × Int := (321, 7, 0, 1)
def zlb_y33 : Nat × Nat × Int × Int := (321, 12, 0, 7)
def zlb_y34 : Nat × Nat × Int × Int := (321, 13, 0, 7)
def zlb_y35 : Nat × Nat × Int × Int := (321, 14, 1, 40)
def zlb_y36 : Nat × Nat × Int × Int := (321, 15, 0, 1)
def zlb_y37 : Nat × Nat × Int × Int := (321, 12, 0, 0)
def zlb_y38 : Nat × Nat × Int × Int := (321, 13, 1, 1)
def zlb_y39 : Nat × Nat × Int × Int := (321, 14, 5, 5)
def zlb_y40 : Nat × Nat × Int × Int := (321, 15, 0, 0)
def zlb_y41 : Nat × Nat × Int × Int := (321, 12, (-539), 2277)
def zlb_y42 : Nat × Nat × Int × Int := (321, 13, (-539), 2277)
def zlb_y43 : Nat × Nat × Int × Int := (321, 14, (-539), 2277)
def zlb_y44 : Nat × Nat × Int × Int := (321, 15, (-539), 2277)
def zlb_y45 : Nat × Nat × Int × Int := (314, 28, 4, 4)
def zlb_y46 : Nat × Nat × Int × Int := (323, 6, 0, 7)
def zlb_y47 : Nat × Nat × Int × Int := (323, 7, 0, 9)
def zlb_y48 : Nat × Nat × Int × Int := (323, 6, 0, 0)
def zlb_y49 : Nat × Nat × Int × Int := (323, 7, 4, 4)
def zlb_y50 : Nat × Nat × Int × Int := (323, 6, (-539), 2277)
def zlb_y51 : Nat × Nat × Int × Int := (323, 7, (-539), 2277)
def zlb_y52 : Nat × Nat × Int × Int := (314, 29, 4, 4)
def zlb_y53 : Nat × Nat × Int × Int := (321, 16, 0, 7)
def zlb_y54 : Nat × Nat × Int × Int := (321, 17, 0, 7)
def zlb_y55 : Nat × Nat × Int × Int := (321, 18, 1, 40)
def zlb_y56 : Nat × Nat × Int × Int := (321, 19, 0, 1)
def zlb_y57 : Nat × Nat × Int × Int := (321, 16, 0, 0)
def zlb_y58 : Nat × Nat × Int × Int := (321, 17, 1, 1)
def zlb_y59 : Nat × Nat × Int × Int := (321, 18, 5, 5)
def zlb_y60 : Nat × Nat × Int × Int := (321, 19, 0, 0)
def zlb_y61 : Nat × Nat × Int × Int := (321, 16, (-539), 2277)
def zlb_y62 : Nat × Nat × Int × Int := (321, 17, (-539), 2277)
def zlb_y63 : Nat × Nat × Int × Int := (321, 18, (-539), 2277)
def zlb_y64 : Nat × Nat × Int × Int := (321, 19, (-539), 2277)
def zlb_y65 : Nat × Nat × Int × Int := (314, 28, 5, 5)
def zlb_y66 : Nat × Nat × Int × Int := (321, 20, 0, 7)
def zlb_y67 : Nat × Nat × Int × Int := (321, 21, 0, 7)
def zlb_y68 : Nat × Nat × Int × Int := (321, 22, 1, 40)
def zlb_y69 : Nat × Nat × Int × Int := (321, 23, 0, 1)
def zlb_y70 : Nat × Nat × Int × Int := (321, 20, 0, 0)
def zlb_y71 : Nat × Nat × Int × Int := (321, 21, 1, 1)
def zlb_y72 : Nat × Nat × Int × Int := (321, 22, 5, 5)
def zlb_y73 : Nat × Nat × Int × Int := (321, 23, 0, 0)
def zlb_y74 : Nat × Nat × Int × Int := (321, 20, (-539), 2277)
def zlb_y75 : Nat × Nat × Int × Int := (321, 21, (-539), 2277)
def zlb_y76 : Nat × Nat × Int × Int := (321, 22, (-539), 2277)
def zlb_y77 : Nat × Nat × Int × Int := (321, 23, (-539), 2277)
def zlb_y78 : Nat × Nat × Int × Int := (314, 28, 6, 6)
def zlb_y79 : Nat × Nat × Int × Int := (321, 24, 0, 7)
def zlb_y80 : Nat × Nat × Int × Int := (321, 25, 0, 7)
def zlb_y81 : Nat × Nat × Int × Int := (321, 26, 1, 40)
def zlb_y82 : Nat × Nat × Int × Int := (321, 27, 0, 1)
def zlb_y83 : Nat × Nat × Int × Int := (321, 24, 0, 0)
def zlb_y84 : Nat × Nat × Int × Int := (321, 25, 1, 1)
def zlb_y85 : Nat × Nat × Int × Int := (321, 26, 5, 5)
def zlb_y86 : Nat × Nat × Int × Int := (321, 27, 0, 0)
def zlb_y87 : Nat × Nat × Int × Int := (321, 24, (-539), 2277)
def zlb_y88 : Nat × Nat × Int × Int := (321, 25, (-539), 2277)
def zlb_y89 : Nat × Nat × Int × Int := (321, 26, (-539), 2277)
def zlb_y90 : Nat × Nat × Int × Int := (321, 27, (-539), 2277)
def zlb_y91 : Nat × Nat × Int × Int := (314, 28, 7, 7)
def zlb_y92 : Nat × Nat × Int × Int := (321, 28, 0, 7)
def zlb_y93 : Nat × Nat × Int × Int := (321, 29, 0, 7)
def zlb_y94 : Nat × Nat × Int × Int := (321, 30, 1, 40)
def zlb_y95 : Nat × Nat × Int × Int := (321, 31, 0, 1)
def zlb_y96 : Nat × Nat × Int × Int := (321, 28, 0, 0)
def zlb_y97 : Nat × Nat × Int × Int := (321, 29, 1, 1)
def zlb_y98 : Nat × Nat × Int × Int := (321, 30, 5, 5)
def zlb_y99 : Nat × Nat × Int × Int := (321, 31, 0, 0)
def zlb_y100 : Nat × Nat × Int × Int := (321, 28, (-539), 2277)
def zlb_y101 : Nat × Nat × Int × Int := (321, 29, (-539), 2277)
def zlb_y102 : Nat × Nat × Int × Int := (321, 30, (-539), 2277)
def zlb_y103 : Nat × Nat × Int × Int := (321, 31, (-539), 2277)
def zlb_y104 : Nat × Nat × Int × Int := (314, 28, 8, 8)
def zlb_y105 : Nat × Nat × Int × Int := (321, 32, 0, 7)
def zlb_y106 : Nat × Nat × Int × Int := (321, 33, 0, 7)
def zlb_y107 : Nat × Nat × Int × Int := (321, 34, 1, 40)
def zlb_y108 : Nat × Nat × Int × Int := (321, 35, 0, 1)
def zlb_y109 : Nat × Nat × Int × Int := (321, 32, 0, 0)
def zlb_y110 : Nat × Nat × Int × Int := (321, 33, 1, 1)
def zlb_y111 : Nat × Nat × Int × Int := (321, 34, 5, 5)
def zlb_y112 : Nat × Nat × Int × Int := (321, 35, 0, 0)
def zlb_y113 : Nat × Nat × Int × Int := (321, 32, (-539), 2277)
def zlb_y114 : Nat × Nat × Int × Int := (321, 33, (-539), 2277)
def zlb_y115 : Nat × Nat × Int × Int := (321, 34, (-539), 2277)
def zlb_y116 : Nat × Nat × Int × Int := (321, 35, (-539), 2277)
def zlb_y117 : Nat × Nat × Int × Int := (314, 28, 9, 9)
def zlb_y118 : Nat × Nat × Int × Int := (321, 36, 0, 7)
def zlb_y119 : Nat × Nat × Int × Int := (321, 37, 0, 7)
def zlb_y120 : Nat × Nat × Int × Int := (321, 38, 1, 40)
def zlb_y121 : Nat × Nat × Int × Int := (321, 39, 0, 1)
def zlb_y122 : Nat × Nat × Int × Int := (321, 36, 0, 0)
def zlb_y123 : Nat × Nat × Int × Int := (321, 37, 1, 1)
def zlb_y124 : Nat × Nat × Int × Int := (321, 38, 5, 5)
def zlb_y125 : Nat × Nat × Int × Int := (321, 39, 0, 0)
def zlb_y126 : Nat × Nat × Int × Int := (321, 36, (-539), 2277)
def zlb_y127 : Nat × Nat × Int × Int := (321, 37, (-539), 2277)
def zlb_y128 : Nat × Nat × Int × Int := (321, 38, (-539), 2277)
def zlb_y129 : Nat × Nat × Int × Int := (321, 39, (-539), 2277)
def zlb_y130 : Nat × Nat × Int × Int := (314, 28, 10, 10)
def zlb_y131 : Nat × Nat × Int × Int := (321, 40, 0, 7)
def zlb_y132 : Nat × Nat × Int × Int := (321, 41, 0, 7)
def zlb_y133 : Nat × Nat × Int × Int := (321, 42, 1, 40)
def zlb_y134 : Nat × Nat × Int × Int := (321, 43, 0, 1)
def zlb_y135 : Nat × Nat × Int × Int := (321, 40, 0, 0)
def zlb_y136 : Nat × Nat × Int × Int := (321, 41, 1, 1)
def zlb_y137 : Nat × Nat × Int × Int := (321, 42, 5, 5)
def zlb_y138 : Nat × Nat × Int × Int := (321, 43, 0, 0)
def zlb_y139 : Nat × Nat × Int × Int := (321, 40, (-539), 2277)
def zlb_y140 : Nat × Nat × Int × Int := (321, 41, (-539), 2277)
def zlb_y141 : Nat × Nat × Int × Int := (321, 42, (-539), 2277)
def zlb_y142 : Nat × Nat × Int × Int := (321, 43, (-539), 2277)
def zlb_y143 : Nat × Nat × Int × Int := (314, 28, 11, 11)
def zlb_y144 : Nat × Nat × Int × Int := (321, 44, 0, 7)
def zlb_y145 : Nat × Nat × Int × Int := (321, 45, 0, 7)
def zlb_y146 : Nat × Nat × Int × Int := (321, 46, 1, 40)
def zlb_y147 : Nat × Nat × Int × Int := (321, 47, 0, 1)
def zlb_y148 : Nat × Nat × Int × Int := (321, 44, 0, 0)
def zlb_y149 : Nat × Nat × Int × Int := (321, 45, 1, 1)
def zlb_y150 : Nat × Nat × Int × Int := (321, 46, 5, 5)
def zlb_y151 : Nat × Nat × Int × Int := (321, 47, 0, 0)
def zlb_y152 : Nat × Nat × Int × Int := (321, 44, (-539), 2277)
def zlb_y153 : Nat × Nat × Int × Int := (321, 45, (-539), 2277)
def zlb_y154 : Nat × Nat × Int × Int := (321, 46, (-539), 2277)
def zlb_y155 : Nat × Nat × Int × Int := (321, 47, (-539), 2277)
def zlb_y156 : Nat × Nat × Int × Int := (314, 28, 12, 12)
def zlb_l5 : List (Int × Int) := [(lLo, lHi), (lLo, lHi), (lLo, lHi), (lLo, lHi), (lLo, lHi)]
def zlb_q0 : aFs := [zlb_y0, zlb_y1]
def zlb_q1 : aFs := [zlb_y0, zlb_y1, zlb_y5, zlb_y6]
def zlb_q2 : aFs := [zlb_y0, zlb_y1, zlb_y5, zlb_y6, zlb_y7]
def zlb_q3 : aFs := [zlb_y0, zlb_y1, zlb_y37, zlb_y38, zlb_y39, zlb_y40]
def zlb_q4 : aFs := [zlb_y0, zlb_y1, zlb_y37, zlb_y38, zlb_y39, zlb_y40, zlb_y7]
def zlb_q5 : aFs := [zlb_y0, zlb_y1, zlb_y38, zlb_y39, zlb_y40, zlb_y33, zlb_y7]
def zlb_q6 : aFs := [zlb_y0, zlb_y1, zlb_y37, zlb_y39, zlb_y40, zlb_y34, zlb_y7]
def zlb_q7 : aFs := [zlb_y0, zlb_y1, zlb_y37, zlb_y38, zlb_y40, zlb_y35, zlb_y7]
def zlb_q8 : aFs := [zlb_y0, zlb_y1, zlb_y37, zlb_y38, zlb_y39, zlb_y36, zlb_y7]
def zlb_q9 : aFs := [zlb_y0, zlb_y1, zlb_y39, zlb_y40, zlb_y33, zlb_y34, zlb_y7]
def zlb_q10 : aFs := [zlb_y0, zlb_y1, zlb_y38, zlb_y40, zlb_y33, zlb_y35, zlb_y7]
def zlb_q11 : aFs := [zlb_y0, zlb_y1, zlb_y38, zlb_y39, zlb_y33, zlb_y36, zlb_y7]
def zlb_q12 : aFs := [zlb_y0, zlb_y1, zlb_y37, zlb_y40, zlb_y34, zlb_y35, zlb_y7]
def zlb_q13 : aFs := [zlb_y0, zlb_y1, zlb_y37, zlb_y39, zlb_y34, zlb_y36, zlb_y7]
def zlb_q14 : aFs := [zlb_y0, zlb_y1, zlb_y37, zlb_y38, zlb_y35, zlb_y36, zlb_y7]
def zlb_q15 : aFs := [zlb_y0, zlb_y1, zlb_y48, zlb_y49]
def zlb_q16 : aFs := [zlb_y0, zlb_y1, zlb_y48, zlb_y49, zlb_y7]
def zlb_q17 : aFs := [zlb_y0, zlb_y1, zlb_y57, zlb_y58, zlb_y59, zlb_y60]
def zlb_q18 : aFs := [zlb_y0, zlb_y1, zlb_y57, zlb_y58, zlb_y59, zlb_y60, zlb_y7]
def zlb_q19 : aFs := [zlb_y0, zlb_y1, zlb_y58, zlb_y59, zlb_y60, zlb_y53, zlb_y7]
def zlb_q20 : aFs := [zlb_y0, zlb_y1, zlb_y57, zlb_y59, zlb_y60, zlb_y54, zlb_y7]
def zlb_q21 : aFs := [zlb_y0, zlb_y1, zlb_y57, zlb_y58, zlb_y60, zlb_y55, zlb_y7]
def zlb_q22 : aFs := [zlb_y0, zlb_y1, zlb_y57, zlb_y58, zlb_y59, zlb_y56, zlb_y7]
def zlb_q23 : aFs := [zlb_y0, zlb_y1, zlb_y59, zlb_y60, zlb_y53, zlb_y54, zlb_y7]
def zlb_q24 : aFs := [zlb_y0, zlb_y1, zlb_y58, zlb_y60, zlb_y53, zlb_y55, zlb_y7]
def zlb_q25 : aFs := [zlb_y0, zlb_y1, zlb_y58, zlb_y59, zlb_y53, zlb_y56, zlb_y7]
def zlb_q26 : aFs := [zlb_y0, zlb_y1, zlb_y57, zlb_y60, zlb_y54, zlb_y55, zlb_y7]
def zlb_q27 : aFs := [zlb_y0, zlb_y1, zlb_y57, zlb_y59, zlb_y54, zlb_y56, zlb_y7]
def zlb_q28 : aFs := [zlb_y0, zlb_y1, zlb_y57, zlb_y58, zlb_y55, zlb_y56, zlb_y7]
def zlb_q29 : aFs := [zlb_y0, zlb_y1, zlb_y70, zlb_y71, zlb_y72, zlb_y73]
def zlb_q30 : aFs := [zlb_y0, zlb_y1, zlb_y70, zlb_y71, zlb_y72, zlb_y73, zlb_y7]
def zlb_q31 : aFs := [zlb_y0, zlb_y1, zlb_y71, zlb_y72, zlb_y73, zlb_y66, zlb_y7]
def zlb_q32 : aFs := [zlb_y0, zlb_y1, zlb_y70, zlb_y72, zlb_y73, zlb_y67, zlb_y7]
def zlb_q33 : aFs := [zlb_y0, zlb_y1, zlb_y70, zlb_y71, zlb_y73, zlb_y68, zlb_y7]
def zlb_q34 : aFs := [zlb_y0, zlb_y1, zlb_y70, zlb_y71, zlb_y72, zlb_y69, zlb_y7]
def zlb_q35 : aFs := [zlb_y0, zlb_y1, zlb_y72, zlb_y73, zlb_y66, zlb_y67, zlb_y7]
def zlb_q36 : aFs := [zlb_y0, zlb_y1, zlb_y71, zlb_y73, zlb_y66, zlb_y68, zlb_y7]
def zlb_q37 : aFs := [zlb_y0, zlb_y1, zlb_y71, zlb_y72, zlb_y66, zlb_y69, zlb_y7]
def zlb_q38 : aFs := [zlb_y0, zlb_y1, zlb_y70, zlb_y73, zlb_y67, zlb_y68, zlb_y7]
def zlb_q39 : aFs := [zlb_y0, zlb_y1, zlb_y70, zlb_y72, zlb_y67, zlb_y69, zlb_y7]
def zlb_q40 : aFs := [zlb_y0, zlb_y1, zlb_y70, zlb_y71, zlb_y68, zlb_y69, zlb_y7]
def zlb_q41 : aFs := [zlb_y0, zlb_y1, zlb_y83, zlb_y84, zlb_y85, zlb_y86]
def zlb_q42 : aFs := [zlb_y0, zlb_y1, zlb_y83, zlb_y84, zlb_y85, zlb_y86, zlb_y7]
def zlb_q43 : aFs := [zlb_y0, zlb_y1, zlb_y84, zlb_y85, zlb_y86, zlb_y79, zlb_y7]
def zlb_q44 : aFs := [zlb_y0, zlb_y1, zlb_y83, zlb_y85, zlb_y86, zlb_y80, zlb_y7]
def zlb_q45 : aFs := [zlb_y0, zlb_y1, zlb_y83, zlb_y84, zlb_y86, zlb_y81, zlb_y7]
def zlb_q46 : aFs := [zlb_y0, zlb_y1, zlb_y83, zlb_y84, zlb_y85, zlb_y82, zlb_y7]
def zlb_q47 : aFs := [zlb_y0, zlb_y1, zlb_y85, zlb_y86, zlb_y79, zlb_y80, zlb_y7]
def zlb_q48 : aFs := [zlb_y0, zlb_y1, zlb_y84, zlb_y86, zlb_y79, zlb_y81, zlb_y7]
def zlb_q49 : aFs := [zlb_y0, zlb_y1, zlb_y84, zlb_y85, zlb_y79, zlb_y82, zlb_y7]
def zlb_q50 : aFs := [zlb_y0, zlb_y1, zlb_y83, zlb_y86, zlb_y80, zlb_y81, zlb_y7]
def zlb_q51 : aFs := [zlb_y0, zlb_y1, zlb_y83, zlb_y85, zlb_y80, zlb_y82, zlb_y7]
def zlb_q52 : aFs := [zlb_y0, zlb_y1, zlb_y83, zlb_y84, zlb_y81, zlb_y82, zlb_y7]
def zlb_q53 : aFs := [zlb_y0, zlb_y1, zlb_y96, zlb_y97, zlb_y98, zlb_y99]
def zlb_q54 : aFs := [zlb_y0, zlb_y1, zlb_y96, zlb_y97, zlb_y98, zlb_y99, zlb_y7]
def zlb_q55 : aFs := [zlb_y0, zlb_y1, zlb_y97, zlb_y98, zlb_y99, zlb_y92, zlb_y7]
def zlb_q56 : aFs := [zlb_y0, zlb_y1, zlb_y96, zlb_y98, zlb_y99, zlb_y93, zlb_y7]
def zlb_q57 : aFs := [zlb_y0, zlb_y1, zlb_y96, zlb_y97, zlb_y99, zlb_y94, zlb_y7]
def zlb_q58 : aFs := [zlb_y0, zlb_y1, zlb_y96, zlb_y97, zlb_y98, zlb_y95, zlb_y7]
def zlb_q59 : aFs := [zlb_y0, zlb_y1, zlb_y98, zlb_y99, zlb_y92, zlb_y93, zlb_y7]
def zlb_q60 : aFs := [zlb_y0, zlb_y1, zlb_y97, zlb_y99, zlb_y92, zlb_y94, zlb_y7]
def zlb_q61 : aFs := [zlb_y0, zlb_y1, zlb_y97, zlb_y98, zlb_y92, zlb_y95, zlb_y7]
def zlb_q62 : aFs := [zlb_y0, zlb_y1, zlb_y96, zlb_y99, zlb_y93, zlb_y94, zlb_y7]
def zlb_q63 : aFs := [zlb_y0, zlb_y1, zlb_y96, zlb_y98, zlb_y93, zlb_y95, zlb_y7]
def zlb_q64 : aFs := [zlb_y0, zlb_y1, zlb_y96, zlb_y97, zlb_y94, zlb_y95, zlb_y7]
def zlb_q65 : aFs := [zlb_y0, zlb_y1, zlb_y109, zlb_y110, zlb_y111, zlb_y112]
def zlb_q66 : aFs := [zlb_y0, zlb_y1, zlb_y109, zlb_y110, zlb_y111, zlb_y112, zlb_y7]
def zlb_q67 : aFs := [zlb_y0, zlb_y1, zlb_y110, zlb_y111, zlb_y112, zlb_y105, zlb_y7]
def zlb_q68 : aFs := [zlb_y0, zlb_y1, zlb_y109, zlb_y111, zlb_y112, zlb_y106, zlb_y7]
def zlb_q69 : aFs := [zlb_y0, zlb_y1, zlb_y109, zlb_y110, zlb_y112, zlb_y107, zlb_y7]
def zlb_q70 : aFs := [zlb_y0, zlb_y1, zlb_y109, zlb_y110, zlb_y111, zlb_y108, zlb_y7]
def zlb_q71 : aFs := [zlb_y0, zlb_y1, zlb_y111, zlb_y112, zlb_y105, zlb_y106, zlb_y7]
def zlb_q72 : aFs := [zlb_y0, zlb_y1, zlb_y110, zlb_y112, zlb_y105, zlb_y107, zlb_y7]
def zlb_q73 : aFs := [zlb_y0, zlb_y1, zlb_y110, zlb_y111, zlb_y105, zlb_y108, zlb_y7]
def zlb_q74 : aFs := [zlb_y0, zlb_y1, zlb_y109, zlb_y112, zlb_y106, zlb_y107, zlb_y7]
def zlb_q75 : aFs := [zlb_y0, zlb_y1, zlb_y109, zlb_y111, zlb_y106, zlb_y108, zlb_y7]
def zlb_q76 : aFs := [zlb_y0, zlb_y1, zlb_y109, zlb_y110, zlb_y107, zlb_y108, zlb_y7]
def zlb_q77 : aFs := [zlb_y0, zlb_y1, zlb_y122, zlb_y123, zlb_y124, zlb_y125]
def zlb_q78 : aFs := [zlb_y0, zlb_y1, zlb_y122, zlb_y123, zlb_y124, zlb_y125, zlb_y7]
def zlb_q79 : aFs := [zlb_y0, zlb_y1, zlb_y123, zlb_y124, zlb_y125, zlb_y118, zlb_y7]
def zlb_q80 : aFs := [zlb_y0, zlb_y1, zlb_y122, zlb_y124, zlb_y125, zlb_y119, zlb_y7]
def zlb_q81 : aFs := [zlb_y0, zlb_y1, zlb_y122, zlb_y123, zlb_y125, zlb_y120, zlb_y7]
def zlb_q82 : aFs := [zlb_y0, zlb_y1, zlb_y122, zlb_y123, zlb_y124, zlb_y121, zlb_y7]
def zlb_q83 : aFs := [zlb_y0, zlb_y1, zlb_y124, zlb_y125, zlb_y118, zlb_y119, zlb_y7]
def zlb_q84 : aFs := [zlb_y0, zlb_y1, zlb_y123, zlb_y125, zlb_y118, zlb_y120, zlb_y7]
def zlb_q85 : aFs := [zlb_y0, zlb_y1, zlb_y123, zlb_y124, zlb_y118, zlb_y121, zlb_y7]
def zlb_q86 : aFs := [zlb_y0, zlb_y1, zlb_y122, zlb_y125, zlb_y119, zlb_y120, zlb_y7]
def zlb_q87 : aFs := [zlb_y0, zlb_y1, zlb_y122, zlb_y124, zlb_y119, zlb_y121, zlb_y7]
def zlb_q88 : aFs := [zlb_y0, zlb_y1, zlb_y122, zlb_y123, zlb_y120, zlb_y121, zlb_y7]
def zlb_q89 : aFs := [zlb_y0, zlb_y1, zlb_y135, zlb_y136, zlb_y137, zlb_y138]
def zlb_q90 : aFs := [zlb_y0, zlb_y1, zlb_y135, zlb_y136, zlb_y137, zlb_y138, zlb_y7]
def zlb_q91 : aFs := [zlb_y0, zlb_y1, zlb_y136, zlb_y137, zlb_y138, zlb_y131, zlb_y7]
def zlb_q92 : aFs := [zlb_y0, zlb_y1, zlb_y135, zlb_y137, zlb_y138, zlb_y132, zlb_y7]
def zlb_q93 : aFs := [zlb_y0, zlb_y1, zlb_y135, zlb_y136, zlb_y138, zlb_y133, zlb_y7]
def zlb_q94 : aFs := [zlb_y0, zlb_y1, zlb_y135, zlb_y136, zlb_y137, zlb_y134, zlb_y7]
def zlb_q95 : aFs := [zlb_y0, zlb_y1, zlb_y137, zlb_y138, zlb_y131, zlb_y132, zlb_y7]
def zlb_q96 : aFs := [zlb_y0, zlb_y1, zlb_y136, zlb_y138, zlb_y131, zlb_y133, zlb_y7]
def zlb_q97 : aFs := [zlb_y0, zlb_y1, zlb_y136, zlb_y137, zlb_y131, zlb_y134, zlb_y7]
def zlb_q98 : aFs := [zlb_y0, zlb_y1, zlb_y135, zlb_y138, zlb_y132, zlb_y133, zlb_y7]
def zlb_q99 : aFs := [zlb_y0, zlb_y1, zlb_y135, zlb_y137, zlb_y132, zlb_y134, zlb_y7]
def zlb_q100 : aFs := [zlb_y0, zlb_y1, zlb_y135, zlb_y136, zlb_y133, zlb_y134, zlb_y7]
def zlb_q101 : aFs := [zlb_y0, zlb_y1, zlb_y148, zlb_y149, zlb_y150, zlb_y151]
def zlb_q102 : aFs := [zlb_y0, zlb_y1, zlb_y148, zlb_y149, zlb_y150, zlb_y151, zlb_y7]
def zlb_q103 : aFs := [zlb_y0, zlb_y1, zlb_y149, zlb_y150, zlb_y151, zlb_y144, zlb_y7]
def zlb_q104 : aFs := [zlb_y0, zlb_y1, zlb_y148, zlb_y150, zlb_y151, zlb_y145, zlb_y7]
def zlb_q105 : aFs := [zlb_y0, zlb_y1, zlb_y148, zlb_y149, zlb_y151, zlb_y146, zlb_y7]
def zlb_q106 : aFs := [zlb_y0, zlb_y1, zlb_y148, zlb_y149, zlb_y150, zlb_y147, zlb_y7]
def zlb_q107 : aFs := [zlb_y0, zlb_y1, zlb_y150, zlb_y151, zlb_y144, zlb_y145, zlb_y7]
def zlb_q108 : aFs := [zlb_y0, zlb_y1, zlb_y149, zlb_y151, zlb_y144, zlb_y146, zlb_y7]
def zlb_q109 : aFs := [zlb_y0, zlb_y1, zlb_y149, zlb_y150, zlb_y144, zlb_y147, zlb_y7]
def zlb_q110 : aFs := [zlb_y0, zlb_y1, zlb_y148, zlb_y151, zlb_y145, zlb_y146, zlb_y7]
def zlb_q111 : aFs := [zlb_y0, zlb_y1, zlb_y148, zlb_y150, zlb_y145, zlb_y147, zlb_y7]
def zlb_q112 : aFs := [zlb_y0, zlb_y1, zlb_y148, zlb_y149, zlb_y146, zlb_y147, zlb_y7]
/-- X12_readItems -/
def tA134c : aCt := (185, [aR [314], aI 112 112, aR [323], aI 4 4, aR [1004]], zlb_q0, [(none, zlb_l5, [zlb_y0, zlb_y2, zlb_y3]), (none, zlb_l5, [zlb_y4])], [(314, 10, 12), (323, 4, 6)])
set_option maxRecDepth 100000 in
theorem tA134 : vC tS tRA jM 11 tA134c := chkF_ok (D := 10) (hst := jM_st (by decide +kernel)) (T := [(fA3c 0), tA1c, tA2c, tA3c, (fA0c 0), tA6c, tA7c, tA8c, tA9c, tA10c, tA13c, tA14c, tA15c, tA16c, tA18c, tA19c, tA0c, tA20c, tA21c, tA22c, tA23c, tA24c]) (N := [(3, [zlb_x0, zlb_x1, zlb_x2, zlb_x3, zlb_x4, zlb_x5], zlb_q0, 5, []),
  (3, [zlb_x0, zlb_x1, zlb_x2, zlb_x3, zlb_x4, zlb_x6], [zlb_y0, zlb_y1, zlb_y5], 4, []),
  (3, [zlb_x0, zlb_x1, zlb_x2, zlb_x3, zlb_x4, zlb_x7], zlb_q1, 3, []),
  (45, [zlb_x0, zlb_x1, zlb_x2, zlb_x3, zlb_x4, zlb_x5, zlb_x8], zlb_q2, 2, []),
  (45, [zlb_x0, zlb_x1, zlb_x2, zlb_x3, zlb_x4, zlb_x5, zlb_x9], zlb_q2, 2, []),
  (45, [zlb_x0, zlb_x1, zlb_x2, zlb_x3, zlb_x4, zlb_x5, zlb_x10], zlb_q1, 0, []),
  (45, [zlb_x0, zlb_x1, zlb_x2, zlb_x3, zlb_x4, zlb_x6, zlb_x8], [zlb_y1, zlb_y6, zlb_y8], 0, []),
  (45, [zlb_x0, zlb_x1, zlb_x2, zlb_x3, zlb_x4, zlb_x6, zlb_x9], [zlb_y0, zlb_y1, zlb_y6, zlb_y2, zlb_y7], 1, []),
  (45, [zlb_x0, zlb_x1, zlb_x2, zlb_x3, zlb_x4, zlb_x6, zlb_x10], [zlb_y0, zlb_y1, zlb_y6, zlb_y2, zlb_y9], 0, []),
  (45, [zlb_x0, zlb_x1, zlb_x2, zlb_x3, zlb_x4, zlb_x7, zlb_x8], [zlb_y0, zlb_y1, zlb_y5, zlb_y3, zlb_y7], 1, []),
  (45, [zlb_x0, zlb_x1, zlb_x2, zlb_x3, zlb_x4, zlb_x7, zlb_x9], [zlb_y1, zlb_y5, zlb_y10], 0, []),
  (45, [zlb_x0, zlb_x1, zlb_x2, zlb_x3, zlb_x4, zlb_x7, zlb_x10], [zlb_y0, zlb_y1, zlb_y5, zlb_y3, zlb_y9], 0, []),
  (45, [zlb_x0, zlb_x1, zlb_x2, zlb_x3, zlb_x4, zlb_x11, zlb_x8], [zlb_y1, zlb_y8, zlb_y3], 0, []),
  (45, [zlb_x0, zlb_x1, zlb_x2, zlb_x3, zlb_x4, zlb_x11, zlb_x9], [zlb_y1, zlb_y2, zlb_y10], 0, []),
  (45, [zlb_x0, zlb_x1, zlb_x2, zlb_x3, zlb_x4, zlb_x11, zlb_x10], [zlb_y0, zlb_y1, zlb_y2, zlb_y3, zlb_y9], 0, [])]) (sp := [(3, 5), (45, 6)]) (fu := 54) (fa_cons (vUq (fA3 0) (by decide)) (fa_cons (vUq tA1 (by decide)) (fa_cons (vUq tA2 (by decide)) (fa_cons (vUq tA3 (by decide)) (fa_cons (vUq (fA0 0) (by decide)) (fa_cons (vUq tA6 (by decide)) (fa_cons (vUq tA7 (by decide)) (fa_cons (vUq tA8 (by decide)) (fa_cons (vUq tA9 (by decide)) (fa_cons (vUq tA10 (by decide)) (fa_cons (vUq tA13 (by decide)) (fa_cons (vUq tA14 (by decide)) (fa_cons (vUq tA15 (by decide)) (fa_cons (vUq tA16 (by decide)) (fa_cons (vUq tA18 (by decide)) (fa_cons (vUq tA19 (by decide)) (fa_cons (vUq tA0 (by decide)) (fa_cons (vUq tA20 (by decide)) (fa_cons (vUq tA21 (by decide)) (fa_cons (vUq tA22 (by decide)) (fa_cons (vUq tA23 (by decide)) (fa_cons (vUq tA24 (by decide)) (fa_nil))))))))))))))))))))))) (by decide +kernel)
/-- X12_readClause -/
def tA135c : aCt := (186, [aR [314]], [zlb_y0, zlb_y11, zlb_y12, zlb_y13, zlb_y1, zlb_y14, zlb_y15], [(none, [(lLo, lHi)], [zlb_y4]), (none, [(lLo, lHi)], [zlb_y11, zlb_y13, zlb_y16, zlb_y0, zlb_y14, zlb_y15, zlb_y2, zlb_y3]), (none, [(lLo, lHi)], ([zlb_y12, zlb_y13, zlb_y17, zlb_y0, zlb_y14, zlb_y15] ++ (rdF 1))), (none, [(lLo, lHi)], [zlb_y11, zlb_y12, zlb_y18, zlb_y0, zlb_y14, zlb_y15])], [(314, 10, 12), (314, 28, 30), (314, 31, 32), (319, 0, 2), (321, 0, 4), (323, 4, 6)])
set_option maxRecDepth 100000 in
theorem tA135 : vC tS tRA jM 12 tA135c := chkF_ok (D := 11) (hst := jM_st (by decide +kernel)) (T := [(fA0c 0), tA0c, tA134c, tA105c, tA121c]) (N := []) (sp := []) (fu := 59) (fa_cons (vUq (fA0 0) (by decide)) (fa_cons (vUq tA0 (by decide)) (fa_cons (vUq tA134 (by decide)) (fa_cons (vUq tA105 (by decide)) (fa_cons (vUq tA121 (by decide)) (fa_nil)))))) (by decide +kernel)
/-- X12_readClause -/
def tA136c : aCt := (186, [aR [314]], [zlb_y0, zlb_y19, zlb_y20, zlb_y18, zlb_y1, zlb_y14, zlb_y15], [(none, [(lLo, lHi)], [zlb_y4]), (none, [(lLo, lHi)], ([zlb_y19, zlb_y18, zlb_y21, zlb_y0, zlb_y14, zlb_y15] ++ ([] ++ fkF 1))), (none, [(lLo, lHi)], [zlb_y20, zlb_y18, zlb_y22, zlb_y0, zlb_y14, zlb_y15, zlb_y23, zlb_y24, zlb_y25, zlb_y26])], [(314, 10, 12), (314, 28, 30), (321, 8, 12), (323, 0, 2)])
set_option maxRecDepth 100000 in
theorem tA136 : vC tS tRA jM 12 tA136c := chkF_ok (D := 11) (hst := jM_st (by decide +kernel)) (T := [(fA0c 0), tA0c, tA25c, tA131c]) (N := []) (sp := []) (fu := 59) (fa_cons (vUq (fA0 0) (by decide)) (fa_cons (vUq tA0 (by decide)) (fa_cons (vUq tA25 (by decide)) (fa_cons (vUq tA131 (by decide)) (fa_nil))))) (by decide +kernel)
/-- X12_readClause -/
def tA137c : aCt := (186, [aR [314]], [zlb_y0, zlb_y17, zlb_y21, zlb_y18, zlb_y1, zlb_y14, zlb_y15], [(none, [(lLo, lHi)], [zlb_y4]), (none, [(lLo, lHi)], [zlb_y17, zlb_y18, zlb_y12, zlb_y0, zlb_y14, zlb_y15, zlb_y27, zlb_y28]), (none, [(lLo, lHi)], [zlb_y21, zlb_y18, zlb_y19, zlb_y0, zlb_y14, zlb_y15, zlb_y29, zlb_y30, zlb_y31, zlb_y32])], [(314, 10, 12), (314, 28, 30), (321, 4, 8), (323, 2, 4)])
set_option maxRecDepth 100000 in
theorem tA137 : vC tS tRA jM 12 tA137c := chkF_ok (D := 11) (hst := jM_st (by decide +kernel)) (T := [(fA0c 0), tA0c, tA127c, tA125c]) (N := []) (sp := []) (fu := 59) (fa_cons (vUq (fA0 0) (by decide)) (fa_cons (vUq tA0 (by decide)) (fa_cons (vUq tA127 (by decide)) (fa_cons (vUq tA125 (by decide)) (fa_nil))))) (by decide +kernel)
/-- X12_readClause -/
def tA138c : aCt := (186, [aR [314]], [zlb_y0, zlb_y11, zlb_y12, zlb_y18, zlb_y1, zlb_y14, zlb_y15], [(none, [(lLo, lHi)], [zlb_y4]), (none, [(lLo, lHi)], [zlb_y11, zlb_y18, zlb_y16, zlb_y0, zlb_y14, zlb_y15, zlb_y2, zlb_y3]), (none, [(lLo, lHi)], ([zlb_y12, zlb_y18, zlb_y17, zlb_y0, zlb_y14, zlb_y15] ++ (rdF 1)))], [(314, 10, 12), (314, 28, 30), (321, 0, 4), (323, 4, 6)])
set_option maxRecDepth 100000 in
theorem tA138 : vC tS tRA jM 12 tA138c := chkF_ok (D := 11) (hst := jM_st (by decide +kernel)) (T := [(fA0c 0), tA0c, tA134c, tA105c]) (N := []) (sp := []) (fu := 59) (fa_cons (vUq (fA0 0) (by decide)) (fa_cons (vUq tA0 (by decide)) (fa_cons (vUq tA134 (by decide)) (fa_cons (vUq tA105 (by decide)) (fa_nil))))) (by decide +kernel)
/-- X12_readItems -/
def tA139c : aCt := (185, [aR [314], aI 101 101, aR [321], aI 12 12, aR [1003]], zlb_q0, [(none, zlb_l5, [zlb_y0, zlb_y33, zlb_y34, zlb_y35, zlb_y36]), (none, zlb_l5, [zlb_y4])], [(314, 10, 12), (321, 12, 16)])
set_option maxRecDepth 100000 in
theorem tA139 : vC tS tRA jM 11 tA139c := chkF_ok (D := 10) (hst := jM_st (by decide +kernel)) (T := [(fA3c 0), tA26c, tA27c, tA28c, tA29c, tA30c, (fA0c 0), tA35c, tA36c, tA8c, tA37c, tA38c, tA13c, tA14c, tA39c, tA40c, tA41c, tA42c, tA43c, tA45c, tA46c, tA47c, tA48c, tA50c, tA19c, tA0c, tA20c, tA51c, tA52c, tA21c, tA22c, tA53c, tA54c, tA55c, tA56c, tA57c, tA58c, tA59c, tA60c, tA61c, tA62c, tA23c, tA24c, tA63c, tA64c, tA65c, tA66c, tA67c, tA68c, tA69c, tA70c, tA71c, tA72c, tA73c, tA74c, tA75c, tA76c, tA77c, tA78c, tA79c, tA80c, tA81c, tA82c, tA83c, tA84c, tA85c, tA86c, tA87c, tA88c, tA89c, tA90c, tA91c, tA92c, tA93c, tA94c, tA95c, tA96c, tA97c, tA98c, tA99c, tA100c, tA101c, tA102c, tA103c, tA104c]) (N := [(3, [zlb_x0, zlb_x12, zlb_x13, zlb_x14, zlb_x15, zlb_x5], zlb_q0, 9, []),
  (3, [zlb_x0, zlb_x12, zlb_x13, zlb_x14, zlb_x15, zlb_x6], [zlb_y0, zlb_y1, zlb_y37], 8, []),
  (3, [zlb_x0, zlb_x12, zlb_x13, zlb_x14, zlb_x15, zlb_x7], [zlb_y0, zlb_y1, zlb_y37, zlb_y38], 7, []),
  (3, [zlb_x0, zlb_x12, zlb_x13, zlb_x14, zlb_x15, zlb_x11], [zlb_y0, zlb_y1, zlb_y37, zlb_y38, zlb_y39], 6, []),
  (3, [zlb_x0, zlb_x12, zlb_x13, zlb_x14, zlb_x15, zlb_x16], zlb_q3, 5, []),
  (45, [zlb_x0, zlb_x12, zlb_x13, zlb_x14, zlb_x15, zlb_x5, zlb_x8], zlb_q4, 4, []),
  (45, [zlb_x0, zlb_x12, zlb_x13, zlb_x14, zlb_x15, zlb_x5, zlb_x9], zlb_q4, 4, []),
  (45, [zlb_x0, zlb_x12, zlb_x13, zlb_x14, zlb_x15, zlb_x5, zlb_x17], zlb_q4, 4, []),
  (45, [zlb_x0, zlb_x12, zlb_x13, zlb_x14, zlb_x15, zlb_x5, zlb_x18], zlb_q4, 4, []),
  (45, [zlb_x0, zlb_x12, zlb_x13, zlb_x14, zlb_x15, zlb_x5, zlb_x10], zlb_q3, 0, []),
  (45, [zlb_x0, zlb_x12, zlb_x13, zlb_x14, zlb_x15, zlb_x6, zlb_x8], [zlb_y1, zlb_y38, zlb_y39, zlb_y40, zlb_y41], 0, []),
  (45, [zlb_x0, zlb_x12, zlb_x13, zlb_x14, zlb_x15, zlb_x6, zlb_x9], zlb_q5, 3, []),
  (45, [zlb_x0, zlb_x12, zlb_x13, zlb_x14, zlb_x15, zlb_x6, zlb_x17], zlb_q5, 3, []),
  (45, [zlb_x0, zlb_x12, zlb_x13, zlb_x14, zlb_x15, zlb_x6, zlb_x18], zlb_q5, 3, []),
  (45, [zlb_x0, zlb_x12, zlb_x13, zlb_x14, zlb_x15, zlb_x6, zlb_x10], [zlb_y0, zlb_y1, zlb_y38, zlb_y39, zlb_y40, zlb_y33, zlb_y9], 0, []),
  (45, [zlb_x0, zlb_x12, zlb_x13, zlb_x14, zlb_x15, zlb_x7, zlb_x8], zlb_q6, 3, []),
  (45, [zlb_x0, zlb_x12, zlb_x13, zlb_x14, zlb_x15, zlb_x7, zlb_x9], [zlb_y1, zlb_y37, zlb_y39, zlb_y40, zlb_y42], 0, []),
  (45, [zlb_x0, zlb_x12, zlb_x13, zlb_x14, zlb_x15, zlb_x7, zlb_x17], zlb_q6, 3, []),
  (45, [zlb_x0, zlb_x12, zlb_x13, zlb_x14, zlb_x15, zlb_x7, zlb_x18], zlb_q6, 3, []),
  (45, [zlb_x0, zlb_x12, zlb_x13, zlb_x14, zlb_x15, zlb_x7, zlb_x10], [zlb_y0, zlb_y1, zlb_y37, zlb_y39, zlb_y40, zlb_y34, zlb_y9], 0, []),
  (45, [zlb_x0, zlb_x12, zlb_x13, zlb_x14, zlb_x15, zlb_x16, zlb_x8], zlb_q7, 3, []),
  (45, [zlb_x0, zlb_x12, zlb_x13, zlb_x14, zlb_x15, zlb_x16, zlb_x9], zlb_q7, 3, []),
  (45, [zlb_x0, zlb_x12, zlb_x13, zlb_x14, zlb_x15, zlb_x16, zlb_x17], [zlb_y1, zlb_y37, zlb_y38, zlb_y40, zlb_y43], 0, []),
  (45, [zlb_x0, zlb_x12, zlb_x13, zlb_x14, zlb_x15, zlb_x16, zlb_x18], zlb_q7, 3, []),
  (45, [zlb_x0, zlb_x12, zlb_x13, zlb_x14, zlb_x15, zlb_x16, zlb_x10], [zlb_y0, zlb_y1, zlb_y37, zlb_y38, zlb_y40, zlb_y35, zlb_y9], 0, []),
  (45, [zlb_x0, zlb_x12, zlb_x13, zlb_x14, zlb_x15, zlb_x19, zlb_x8], zlb_q8, 3, []),
  (45, [zlb_x0, zlb_x12, zlb_x13, zlb_x14, zlb_x15, zlb_x19, zlb_x9], zlb_q8, 3, []),
  (45, [zlb_x0, zlb_x12, zlb_x13, zlb_x14, zlb_x15, zlb_x19, zlb_x17], zlb_q8, 3, []),
  (45, [zlb_x0, zlb_x12, zlb_x13, zlb_x14, zlb_x15, zlb_x19, zlb_x18], [zlb_y1, zlb_y37, zlb_y38, zlb_y39, zlb_y44], 0, []),
  (45, [zlb_x0, zlb_x12, zlb_x13, zlb_x14, zlb_x15, zlb_x19, zlb_x10], [zlb_y0, zlb_y1, zlb_y37, zlb_y38, zlb_y39, zlb_y36, zlb_y9], 0, []),
  (45, [zlb_x0, zlb_x12, zlb_x13, zlb_x14, zlb_x15, zlb_x11, zlb_x8], [zlb_y1, zlb_y39, zlb_y40, zlb_y41, zlb_y34], 0, []),
  (45, [zlb_x0, zlb_x12, zlb_x13, zlb_x14, zlb_x15, zlb_x11, zlb_x9], [zlb_y1, zlb_y39, zlb_y40, zlb_y33, zlb_y42], 0, []),
  (45, [zlb_x0, zlb_x12, zlb_x13, zlb_x14, zlb_x15, zlb_x11, zlb_x17], zlb_q9, 2, []),
  (45, [zlb_x0, zlb_x12, zlb_x13, zlb_x14, zlb_x15, zlb_x11, zlb_x18], zlb_q9, 2, []),
  (45, [zlb_x0, zlb_x12, zlb_x13, zlb_x14, zlb_x15, zlb_x11, zlb_x10], [zlb_y0, zlb_y1, zlb_y39, zlb_y40, zlb_y33, zlb_y34, zlb_y9], 0, []),
  (45, [zlb_x0, zlb_x12, zlb_x13, zlb_x14, zlb_x15, zlb_x20, zlb_x8], [zlb_y1, zlb_y38, zlb_y40, zlb_y41, zlb_y35], 0, []),
  (45, [zlb_x0, zlb_x12, zlb_x13, zlb_x14, zlb_x15, zlb_x20, zlb_x9], zlb_q10, 2, []),
  (45, [zlb_x0, zlb_x12, zlb_x13, zlb_x14, zlb_x15, zlb_x20, zlb_x17], [zlb_y1, zlb_y38, zlb_y40, zlb_y33, zlb_y43], 0, []),
  (45, [zlb_x0, zlb_x12, zlb_x13, zlb_x14, zlb_x15, zlb_x20, zlb_x18], zlb_q10, 2, []),
  (45, [zlb_x0, zlb_x12, zlb_x13, zlb_x14, zlb_x15, zlb_x20, zlb_x10], [zlb_y0, zlb_y1, zlb_y38, zlb_y40, zlb_y33, zlb_y35, zlb_y9], 0, []),
  (45, [zlb_x0, zlb_x12, zlb_x13, zlb_x14, zlb_x15, zlb_x21, zlb_x8], [zlb_y1, zlb_y38, zlb_y39, zlb_y41, zlb_y36], 0, []),
  (45, [zlb_x0, zlb_x12, zlb_x13, zlb_x14, zlb_x15, zlb_x21, zlb_x9], zlb_q11, 2, []),
  (45, [zlb_x0, zlb_x12, zlb_x13, zlb_x14, zlb_x15, zlb_x21, zlb_x17], zlb_q11, 2, []),
  (45, [zlb_x0, zlb_x12, zlb_x13, zlb_x14, zlb_x15, zlb_x21, zlb_x18], [zlb_y1, zlb_y38, zlb_y39, zlb_y33, zlb_y44], 0, []),
  (45, [zlb_x0, zlb_x12, zlb_x13, zlb_x14, zlb_x15, zlb_x21, zlb_x10], [zlb_y0, zlb_y1, zlb_y38, zlb_y39, zlb_y33, zlb_y36, zlb_y9], 0, []),
  (45, [zlb_x0, zlb_x12, zlb_x13, zlb_x14, zlb_x15, zlb_x22, zlb_x8], zlb_q12, 2, []),
  (45, [zlb_x0, zlb_x12, zlb_x13, zlb_x14, zlb_x15, zlb_x22, zlb_x9], [zlb_y1, zlb_y37, zlb_y40, zlb_y42, zlb_y35], 0, []),
  (45, [zlb_x0, zlb_x12, zlb_x13, zlb_x14, zlb_x15, zlb_x22, zlb_x17], [zlb_y1, zlb_y37, zlb_y40, zlb_y34, zlb_y43], 0, []),
  (45, [zlb_x0, zlb_x12, zlb_x13, zlb_x14, zlb_x15, zlb_x22, zlb_x18], zlb_q12, 2, []),
  (45, [zlb_x0, zlb_x12, zlb_x13, zlb_x14, zlb_x15, zlb_x22, zlb_x10], [zlb_y0, zlb_y1, zlb_y37, zlb_y40, zlb_y34, zlb_y35, zlb_y9], 0, []),
  (45, [zlb_x0, zlb_x12, zlb_x13, zlb_x14, zlb_x15, zlb_x23, zlb_x8], zlb_q13, 2, []),
  (45, [zlb_x0, zlb_x12, zlb_x13, zlb_x14, zlb_x15, zlb_x23, zlb_x9], [zlb_y1, zlb_y37, zlb_y39, zlb_y42, zlb_y36], 0, []),
  (45, [zlb_x0, zlb_x12, zlb_x13, zlb_x14, zlb_x15, zlb_x23, zlb_x17], zlb_q13, 2, []),
  (45, [zlb_x0, zlb_x12, zlb_x13, zlb_x14, zlb_x15, zlb_x23, zlb_x18], [zlb_y1, zlb_y37, zlb_y39, zlb_y34, zlb_y44], 0, []),
  (45, [zlb_x0, zlb_x12, zlb_x13, zlb_x14, zlb_x15, zlb_x23, zlb_x10], [zlb_y0, zlb_y1, zlb_y37, zlb_y39, zlb_y34, zlb_y36, zlb_y9], 0, []),
  (45, [zlb_x0, zlb_x12, zlb_x13, zlb_x14, zlb_x15, zlb_x24, zlb_x8], zlb_q14, 2, []),
  (45, [zlb_x0, zlb_x12, zlb_x13, zlb_x14, zlb_x15, zlb_x24, zlb_x9], zlb_q14, 2, []),
  (45, [zlb_x0, zlb_x12, zlb_x13, zlb_x14, zlb_x15, zlb_x24, zlb_x17], [zlb_y1, zlb_y37, zlb_y38, zlb_y43, zlb_y36], 0, []),
  (45, [zlb_x0, zlb_x12, zlb_x13, zlb_x14, zlb_x15, zlb_x24, zlb_x18], [zlb_y1, zlb_y37, zlb_y38, zlb_y35, zlb_y44], 0, []),
  (45, [zlb_x0, zlb_x12, zlb_x13, zlb_x14, zlb_x15, zlb_x24, zlb_x10], [zlb_y0, zlb_y1, zlb_y37, zlb_y38, zlb_y35, zlb_y36, zlb_y9], 0, []),
  (45, [zlb_x0, zlb_x12, zlb_x13, zlb_x14, zlb_x15, zlb_x25, zlb_x8], [zlb_y1, zlb_y40, zlb_y41, zlb_y34, zlb_y35], 0, []),
  (45, [zlb_x0, zlb_x12, zlb_x13, zlb_x14, zlb_x15, zlb_x25, zlb_x9], [zlb_y1, zlb_y40, zlb_y33, zlb_y42, zlb_y35], 0, []),
  (45, [zlb_x0, zlb_x12, zlb_x13, zlb_x14, zlb_x15, zlb_x25, zlb_x17], [zlb_y1, zlb_y40, zlb_y33, zlb_y34, zlb_y43], 0, []),
  (45, [zlb_x0, zlb_x12, zlb_x13, zlb_x14, zlb_x15, zlb_x25, zlb_x18], [zlb_y0, zlb_y1, zlb_y40, zlb_y33, zlb_y34, zlb_y35, zlb_y7], 1, []),
  (45, [zlb_x0, zlb_x12, zlb_x13, zlb_x14, zlb_x15, zlb_x25, zlb_x10], [zlb_y0, zlb_y1, zlb_y40, zlb_y33, zlb_y34, zlb_y35, zlb_y9], 0, []),
  (45, [zlb_x0, zlb_x12, zlb_x13, zlb_x14, zlb_x15, zlb_x26, zlb_x8], [zlb_y1, zlb_y39, zlb_y41, zlb_y34, zlb_y36], 0, []),
  (45, [zlb_x0, zlb_x12, zlb_x13, zlb_x14, zlb_x15, zlb_x26, zlb_x9], [zlb_y1, zlb_y39, zlb_y33, zlb_y42, zlb_y36], 0, []),
  (45, [zlb_x0, zlb_x12, zlb_x13, zlb_x14, zlb_x15, zlb_x26, zlb_x17], [zlb_y0, zlb_y1, zlb_y39, zlb_y33, zlb_y34, zlb_y36, zlb_y7], 1, []),
  (45, [zlb_x0, zlb_x12, zlb_x13, zlb_x14, zlb_x15, zlb_x26, zlb_x18], [zlb_y1, zlb_y39, zlb_y33, zlb_y34, zlb_y44], 0, []),
  (45, [zlb_x0, zlb_x12, zlb_x13, zlb_x14, zlb_x15, zlb_x26, zlb_x10], [zlb_y0, zlb_y1, zlb_y39, zlb_y33, zlb_y34, zlb_y36, zlb_y9], 0, []),
  (45, [zlb_x0, zlb_x12, zlb_x13, zlb_x14, zlb_x15, zlb_x27, zlb_x8], [zlb_y1, zlb_y38, zlb_y41, zlb_y35, zlb_y36], 0, []),
  (45, [zlb_x0, zlb_x12, zlb_x13, zlb_x14, zlb_x15, zlb_x27, zlb_x9], [zlb_y0, zlb_y1, zlb_y38, zlb_y33, zlb_y35, zlb_y36, zlb_y7], 1, []),
  (45, [zlb_x0, zlb_x12, zlb_x13, zlb_x14, zlb_x15, zlb_x27, zlb_x17], [zlb_y1, zlb_y38, zlb_y33, zlb_y43, zlb_y36], 0, []),
  (45, [zlb_x0, zlb_x12, zlb_x13, zlb_x14, zlb_x15, zlb_x27, zlb_x18], [zlb_y1, zlb_y38, zlb_y33, zlb_y35, zlb_y44], 0, []),
  (45, [zlb_x0, zlb_x12, zlb_x13, zlb_x14, zlb_x15, zlb_x27, zlb_x10], [zlb_y0, zlb_y1, zlb_y38, zlb_y33, zlb_y35, zlb_y36, zlb_y9], 0, []),
  (45, [zlb_x0, zlb_x12, zlb_x13, zlb_x14, zlb_x15, zlb_x28, zlb_x8], [zlb_y0, zlb_y1, zlb_y37, zlb_y34, zlb_y35, zlb_y36, zlb_y7], 1, []),
  (45, [zlb_x0, zlb_x12, zlb_x13, zlb_x14, zlb_x15, zlb_x28, zlb_x9], [zlb_y1, zlb_y37, zlb_y42, zlb_y35, zlb_y36], 0, []),
  (45, [zlb_x0, zlb_x12, zlb_x13, zlb_x14, zlb_x15, zlb_x28, zlb_x17], [zlb_y1, zlb_y37, zlb_y34, zlb_y43, zlb_y36], 0, []),
  (45, [zlb_x0, zlb_x12, zlb_x13, zlb_x14, zlb_x15, zlb_x28, zlb_x18], [zlb_y1, zlb_y37, zlb_y34, zlb_y35, zlb_y44], 0, []),
  (45, [zlb_x0, zlb_x12, zlb_x13, zlb_x14, zlb_x15, zlb_x28, zlb_x10], [zlb_y0, zlb_y1, zlb_y37, zlb_y34, zlb_y35, zlb_y36, zlb_y9], 0, []),
  (45, [zlb_x0, zlb_x12, zlb_x13, zlb_x14, zlb_x15, zlb_x29, zlb_x8], [zlb_y1, zlb_y41, zlb_y34, zlb_y35, zlb_y36], 0, []),
  (45, [zlb_x0, zlb_x12, zlb_x13, zlb_x14, zlb_x15, zlb_x29, zlb_x9], [zlb_y1, zlb_y33, zlb_y42, zlb_y35, zlb_y36], 0, []),
  (45, [zlb_x0, zlb_x12, zlb_x13, zlb_x14, zlb_x15, zlb_x29, zlb_x17], [zlb_y1, zlb_y33, zlb_y34, zlb_y43, zlb_y36], 0, []),
  (45, [zlb_x0, zlb_x12, zlb_x13, zlb_x14, zlb_x15, zlb_x29, zlb_x18], [zlb_y1, zlb_y33, zlb_y34, zlb_y35, zlb_y44], 0, []),
  (45, [zlb_x0, zlb_x12, zlb_x13, zlb_x14, zlb_x15, zlb_x29, zlb_x10], [zlb_y0, zlb_y1, zlb_y33, zlb_y34, zlb_y35, zlb_y36, zlb_y9], 0, [])]) (sp := [(3, 5), (45, 6)]) (fu := 54) (fa_cons (vUq (fA3 0) (by decide)) (fa_cons (vUq tA26 (by decide)) (fa_cons (vUq tA27 (by decide)) (fa_cons (vUq tA28 (by decide)) (fa_cons (vUq tA29 (by decide)) (fa_cons (vUq tA30 (by decide)) (fa_cons (vUq (fA0 0) (by decide)) (fa_cons (vUq tA35 (by decide)) (fa_cons (vUq tA36 (by decide)) (fa_cons (vUq tA8 (by decide)) (fa_cons (vUq tA37 (by decide)) (fa_cons (vUq tA38 (by decide)) (fa_cons (vUq tA13 (by decide)) (fa_cons (vUq tA14 (by decide)) (fa_cons (vUq tA39 (by decide)) (fa_cons (vUq tA40 (by decide)) (fa_cons (vUq tA41 (by decide)) (fa_cons (vUq tA42 (by decide)) (fa_cons (vUq tA43 (by decide)) (fa_cons (vUq tA45 (by decide)) (fa_cons (vUq tA46 (by decide)) (fa_cons (vUq tA47 (by decide)) (fa_cons (vUq tA48 (by decide)) (fa_cons (vUq tA50 (by decide)) (fa_cons (vUq tA19 (by decide)) (fa_cons (vUq tA0 (by decide)) (fa_cons (vUq tA20 (by decide)) (fa_cons (vUq tA51 (by decide)) (fa_cons (vUq tA52 (by decide)) (fa_cons (vUq tA21 (by decide)) (fa_cons (vUq tA22 (by decide)) (fa_cons (vUq tA53 (by decide)) (fa_cons (vUq tA54 (by decide)) (fa_cons (vUq tA55 (by decide)) (fa_cons (vUq tA56 (by decide)) (fa_cons (vUq tA57 (by decide)) (fa_cons (vUq tA58 (by decide)) (fa_cons (vUq tA59 (by decide)) (fa_cons (vUq tA60 (by decide)) (fa_cons (vUq tA61 (by decide)) (fa_cons (vUq tA62 (by decide)) (fa_cons (vUq tA23 (by decide)) (fa_cons (vUq tA24 (by decide)) (fa_cons (vUq tA63 (by decide)) (fa_cons (vUq tA64 (by decide)) (fa_cons (vUq tA65 (by decide)) (fa_cons (vUq tA66 (by decide)) (fa_cons (vUq tA67 (by decide)) (fa_cons (vUq tA68 (by decide)) (fa_cons (vUq tA69 (by decide)) (fa_cons (vUq tA70 (by decide)) (fa_cons (vUq tA71 (by decide)) (fa_cons (vUq tA72 (by decide)) (fa_cons (vUq tA73 (by decide)) (fa_cons (vUq tA74 (by decide)) (fa_cons (vUq tA75 (by decide)) (fa_cons (vUq tA76 (by decide)) (fa_cons (vUq tA77 (by decide)) (fa_cons (vUq tA78 (by decide)) (fa_cons (vUq tA79 (by decide)) (fa_cons (vUq tA80 (by decide)) (fa_cons (vUq tA81 (by decide)) (fa_cons (vUq tA82 (by decide)) (fa_cons (vUq tA83 (by decide)) (fa_cons (vUq tA84 (by decide)) (fa_cons (vUq tA85 (by decide)) (fa_cons (vUq tA86 (by decide)) (fa_cons (vUq tA87 (by decide)) (fa_cons (vUq tA88 (by decide)) (fa_cons (vUq tA89 (by decide)) (fa_cons (vUq tA90 (by decide)) (fa_cons (vUq tA91 (by decide)) (fa_cons (vUq tA92 (by decide)) (fa_cons (vUq tA93 (by decide)) (fa_cons (vUq tA94 (by decide)) (fa_cons (vUq tA95 (by decide)) (fa_cons (vUq tA96 (by decide)) (fa_cons (vUq tA97 (by decide)) (fa_cons (vUq tA98 (by decide)) (fa_cons (vUq tA99 (by decide)) (fa_cons (vUq tA100 (by decide)) (fa_cons (vUq tA101 (by decide)) (fa_cons (vUq tA102 (by decide)) (fa_cons (vUq tA103 (by decide)) (fa_cons (vUq tA104 (by decide)) (fa_nil)))))))))))))))))))))))))))))))))))))))))))))))))))))))))))))))))))))))))))))))))))))) (by decide +kernel)
/-- X12_readClause -/
def tA140c : aCt := (186, [aR [314]], [zlb_y0, zlb_y22, zlb_y20, zlb_y13, zlb_y1, zlb_y14, zlb_y15], [(none, [(lLo, lHi)], [zlb_y4]), (none, [(lLo, lHi)], ([zlb_y22, zlb_y13, zlb_y21, zlb_y0, zlb_y14, zlb_y15] ++ ([] ++ fkF 1))), (none, [(lLo, lHi)], [zlb_y20, zlb_y13, zlb_y45, zlb_y0, zlb_y14, zlb_y15, zlb_y33, zlb_y34, zlb_y35, zlb_y36]), (none, [(lLo, lHi)], [zlb_y22, zlb_y20, zlb_y18, zlb_y0, zlb_y14, zlb_y15])], [(314, 10, 12), (314, 28, 30), (314, 31, 32), (319, 0, 2), (321, 12, 16), (323, 0, 2)])
set_option maxRecDepth 100000 in
theorem tA140 : vC tS tRA jM 12 tA140c := chkF_ok (D := 11) (hst := jM_st (by decide +kernel)) (T := [(fA0c 0), tA0c, tA25c, tA139c, tA121c]) (N := []) (sp := []) (fu := 59) (fa_cons (vUq (fA0 0) (by decide)) (fa_cons (vUq tA0 (by decide)) (fa_cons (vUq tA25 (by decide)) (fa_cons (vUq tA139 (by decide)) (fa_cons (vUq tA121 (by decide)) (fa_nil)))))) (by decide +kernel)
/-- X12_readClause -/
def tA141c : aCt := (186, [aR [314]], [zlb_y0, zlb_y19, zlb_y21, zlb_y13, zlb_y1, zlb_y14, zlb_y15], [(none, [(lLo, lHi)], [zlb_y4]), (none, [(lLo, lHi)], [zlb_y19, zlb_y13, zlb_y12, zlb_y0, zlb_y14, zlb_y15, zlb_y27, zlb_y28]), (none, [(lLo, lHi)], [zlb_y21, zlb_y13, zlb_y22, zlb_y0, zlb_y14, zlb_y15, zlb_y23, zlb_y24, zlb_y25, zlb_y26]), (none, [(lLo, lHi)], [zlb_y19, zlb_y21, zlb_y18, zlb_y0, zlb_y14, zlb_y15])], [(314, 10, 12), (314, 28, 30), (314, 31, 32), (319, 0, 2), (321, 8, 12), (323, 2, 4)])
set_option maxRecDepth 100000 in
theorem tA141 : vC tS tRA jM 12 tA141c := chkF_ok (D := 11) (hst := jM_st (by decide +kernel)) (T := [(fA0c 0), tA0c, tA127c, tA131c, tA121c]) (N := []) (sp := []) (fu := 59) (fa_cons (vUq (fA0 0) (by decide)) (fa_cons (vUq tA0 (by decide)) (fa_cons (vUq tA127 (by decide)) (fa_cons (vUq tA131 (by decide)) (fa_cons (vUq tA121 (by decide)) (fa_nil)))))) (by decide +kernel)
/-- X12_readClause -/
def tA142c : aCt := (186, [aR [314]], [zlb_y0, zlb_y17, zlb_y12, zlb_y13, zlb_y1, zlb_y14, zlb_y15], [(none, [(lLo, lHi)], [zlb_y4]), (none, [(lLo, lHi)], [zlb_y17, zlb_y13, zlb_y16, zlb_y0, zlb_y14, zlb_y15, zlb_y2, zlb_y3]), (none, [(lLo, lHi)], [zlb_y12, zlb_y13, zlb_y19, zlb_y0, zlb_y14, zlb_y15, zlb_y29, zlb_y30, zlb_y31, zlb_y32]), (none, [(lLo, lHi)], [zlb_y17, zlb_y12, zlb_y18, zlb_y0, zlb_y14, zlb_y15])], [(314, 10, 12), (314, 28, 30), (314, 31, 32), (319, 0, 2), (321, 4, 8), (323, 4, 6)])
set_option maxRecDepth 100000 in
theorem tA142 : vC tS tRA jM 12 tA142c := chkF_ok (D := 11) (hst := jM_st (by decide +kernel)) (T := [(fA0c 0), tA0c, tA134c, tA125c, tA121c]) (N := []) (sp := []) (fu := 59) (fa_cons (vUq (fA0 0) (by decide)) (fa_cons (vUq tA0 (by decide)) (fa_cons (vUq tA134 (by decide)) (fa_cons (vUq tA125 (by decide)) (fa_cons (vUq tA121 (by decide)) (fa_nil)))))) (by decide +kernel)
/-- X12_readItems -/
def tA143c : aCt := (185, [aR [314], aI 112 112, aR [323], aI 6 6, aR [1004]], zlb_q0, [(none, zlb_l5, [zlb_y0, zlb_y46, zlb_y47]), (none, zlb_l5, [zlb_y4])], [(314, 10, 12), (323, 6, 8)])
set_option maxRecDepth 100000 in
theorem tA143 : vC tS tRA jM 11 tA143c := chkF_ok (D := 10) (hst := jM_st (by decide +kernel)) (T := [(fA3c 0), tA1c, tA2c, tA3c, (fA0c 0), tA6c, tA7c, tA8c, tA9c, tA10c, tA13c, tA14c, tA15c, tA16c, tA18c, tA19c, tA0c, tA20c, tA21c, tA22c, tA23c, tA24c]) (N := [(3, [zlb_x0, zlb_x1, zlb_x2, zlb_x30, zlb_x4, zlb_x5], zlb_q0, 5, []),
  (3, [zlb_x0, zlb_x1, zlb_x2, zlb_x30, zlb_x4, zlb_x6], [zlb_y0, zlb_y1, zlb_y48], 4, []),
  (3, [zlb_x0, zlb_x1, zlb_x2, zlb_x30, zlb_x4, zlb_x7], zlb_q15, 3, []),
  (45, [zlb_x0, zlb_x1, zlb_x2, zlb_x30, zlb_x4, zlb_x5, zlb_x8], zlb_q16, 2, []),
  (45, [zlb_x0, zlb_x1, zlb_x2, zlb_x30, zlb_x4, zlb_x5, zlb_x9], zlb_q16, 2, []),
  (45, [zlb_x0, zlb_x1, zlb_x2, zlb_x30, zlb_x4, zlb_x5, zlb_x10], zlb_q15, 0, []),
  (45, [zlb_x0, zlb_x1, zlb_x2, zlb_x30, zlb_x4, zlb_x6, zlb_x8], [zlb_y1, zlb_y49, zlb_y50], 0, []),
  (45, [zlb_x0, zlb_x1, zlb_x2, zlb_x30, zlb_x4, zlb_x6, zlb_x9], [zlb_y0, zlb_y1, zlb_y49, zlb_y46, zlb_y7], 1, []),
  (45, [zlb_x0, zlb_x1, zlb_x2, zlb_x30, zlb_x4, zlb_x6, zlb_x10], [zlb_y0, zlb_y1, zlb_y49, zlb_y46, zlb_y9], 0, []),
  (45, [zlb_x0, zlb_x1, zlb_x2, zlb_x30, zlb_x4, zlb_x7, zlb_x8], [zlb_y0, zlb_y1, zlb_y48, zlb_y47, zlb_y7], 1, []),
  (45, [zlb_x0, zlb_x1, zlb_x2, zlb_x30, zlb_x4, zlb_x7, zlb_x9], [zlb_y1, zlb_y48, zlb_y51], 0, []),
  (45, [zlb_x0, zlb_x1, zlb_x2, zlb_x30, zlb_x4, zlb_x7, zlb_x10], [zlb_y0, zlb_y1, zlb_y48, zlb_y47, zlb_y9], 0, []),
  (45, [zlb_x0, zlb_x1, zlb_x2, zlb_x30, zlb_x4, zlb_x11, zlb_x8], [zlb_y1, zlb_y50, zlb_y47], 0, []),
  (45, [zlb_x0, zlb_x1, zlb_x2, zlb_x30, zlb_x4, zlb_x11, zlb_x9], [zlb_y1, zlb_y46, zlb_y51], 0, []),
  (45, [zlb_x0, zlb_x1, zlb_x2, zlb_x30, zlb_x4, zlb_x11, zlb_x10], [zlb_y0, zlb_y1, zlb_y46, zlb_y47, zlb_y9], 0, [])]) (sp := [(3, 5), (45, 6)]) (fu := 54) (fa_cons (vUq (fA3 0) (by decide)) (fa_cons (vUq tA1 (by decide)) (fa_cons (vUq tA2 (by decide)) (fa_cons (vUq tA3 (by decide)) (fa_cons (vUq (fA0 0) (by decide)) (fa_cons (vUq tA6 (by decide)) (fa_cons (vUq tA7 (by decide)) (fa_cons (vUq tA8 (by decide)) (fa_cons (vUq tA9 (by decide)) (fa_cons (vUq tA10 (by decide)) (fa_cons (vUq tA13 (by decide)) (fa_cons (vUq tA14 (by decide)) (fa_cons (vUq tA15 (by decide)) (fa_cons (vUq tA16 (by decide)) (fa_cons (vUq tA18 (by decide)) (fa_cons (vUq tA19 (by decide)) (fa_cons (vUq tA0 (by decide)) (fa_cons (vUq tA20 (by decide)) (fa_cons (vUq tA21 (by decide)) (fa_cons (vUq tA22 (by decide)) (fa_cons (vUq tA23 (by decide)) (fa_cons (vUq tA24 (by decide)) (fa_nil))))))))))))))))))))))) (by decide +kernel)
/-- X12_readClause -/
def tA144c : aCt := (186, [aR [314]], [zlb_y0, zlb_y11, zlb_y16, zlb_y13, zlb_y1, zlb_y14, zlb_y15], [(none, [(lLo, lHi)], [zlb_y4]), (none, [(lLo, lHi)], [zlb_y11, zlb_y13, zlb_y52, zlb_y0, zlb_y14, zlb_y15, zlb_y46, zlb_y47]), (none, [(lLo, lHi)], ([zlb_y16, zlb_y13, zlb_y17, zlb_y0, zlb_y14, zlb_y15] ++ (rdF 1))), (none, [(lLo, lHi)], [zlb_y11, zlb_y16, zlb_y18, zlb_y0, zlb_y14, zlb_y15])], [(314, 10, 12), (314, 28, 30), (314, 31, 32), (319, 0, 2), (321, 0, 4), (323, 6, 8)])
set_option maxRecDepth 100000 in
theorem tA144 : vC tS tRA jM 12 tA144c := chkF_ok (D := 11) (hst := jM_st (by decide +kernel)) (T := [(fA0c 0), tA0c, tA143c, tA105c, tA121c]) (N := []) (sp := []) (fu := 59) (fa_cons (vUq (fA0 0) (by decide)) (fa_cons (vUq tA0 (by decide)) (fa_cons (vUq tA143 (by decide)) (fa_cons (vUq tA105 (by decide)) (fa_cons (vUq tA121 (by decide)) (fa_nil)))))) (by decide +kernel)
/-- X12_readClause -/
def tA145c : aCt := (186, [aR [314]], [zlb_y0, zlb_y22, zlb_y20, zlb_y18, zlb_y1, zlb_y14, zlb_y15], [(none, [(lLo, lHi)], [zlb_y4]), (none, [(lLo, lHi)], ([zlb_y22, zlb_y18, zlb_y21, zlb_y0, zlb_y14, zlb_y15] ++ ([] ++ fkF 1))), (none, [(lLo, lHi)], [zlb_y20, zlb_y18, zlb_y45, zlb_y0, zlb_y14, zlb_y15, zlb_y33, zlb_y34, zlb_y35, zlb_y36])], [(314, 10, 12), (314, 28, 30), (321, 12, 16), (323, 0, 2)])
set_option maxRecDepth 100000 in
theorem tA145 : vC tS tRA jM 12 tA145c := chkF_ok (D := 11) (hst := jM_st (by decide +kernel)) (T := [(fA0c 0), tA0c, tA25c, tA139c]) (N := []) (sp := []) (fu := 59) (fa_cons (vUq (fA0 0) (by decide)) (fa_cons (vUq tA0 (by decide)) (fa_cons (vUq tA25 (by decide)) (fa_cons (vUq tA139 (by decide)) (fa_nil))))) (by decide +kernel)
/-- X12_readClause -/
def tA146c : aCt := (186, [aR [314]], [zlb_y0, zlb_y19, zlb_y21, zlb_y18, zlb_y1, zlb_y14, zlb_y15], [(none, [(lLo, lHi)], [zlb_y4]), (none, [(lLo, lHi)], [zlb_y19, zlb_y18, zlb_y12, zlb_y0, zlb_y14, zlb_y15, zlb_y27, zlb_y28]), (none, [(lLo, lHi)], [zlb_y21, zlb_y18, zlb_y22, zlb_y0, zlb_y14, zlb_y15, zlb_y23, zlb_y24, zlb_y25, zlb_y26])], [(314, 10, 12), (314, 28, 30), (321, 8, 12), (323, 2, 4)])
set_option maxRecDepth 100000 in
theorem tA146 : vC tS tRA jM 12 tA146c := chkF_ok (D := 11) (hst := jM_st (by decide +kernel)) (T := [(fA0c 0), tA0c, tA127c, tA131c]) (N := []) (sp := []) (fu := 59) (fa_cons (vUq (fA0 0) (by decide)) (fa_cons (vUq tA0 (by decide)) (fa_cons (vUq tA127 (by decide)) (fa_cons (vUq tA131 (by decide)) (fa_nil))))) (by decide +kernel)
/-- X12_readClause -/
def tA147c : aCt := (186, [aR [314]], [zlb_y0, zlb_y17, zlb_y12, zlb_y18, zlb_y1, zlb_y14, zlb_y15], [(none, [(lLo, lHi)], [zlb_y4]), (none, [(lLo, lHi)], [zlb_y17, zlb_y18, zlb_y16, zlb_y0, zlb_y14, zlb_y15, zlb_y2, zlb_y3]), (none, [(lLo, lHi)], [zlb_y12, zlb_y18, zlb_y19, zlb_y0, zlb_y14, zlb_y15, zlb_y29, zlb_y30, zlb_y31, zlb_y32])], [(314, 10, 12), (314, 28, 30), (321, 4, 8), (323, 4, 6)])
set_option maxRecDepth 100000 in
theorem tA147 : vC tS tRA jM 12 tA147c := chkF_ok (D := 11) (hst := jM_st (by decide +kernel)) (T := [(fA0c 0), tA0c, tA134c, tA125c]) (N := []) (sp := []) (fu := 59) (fa_cons (vUq (fA0 0) (by decide)) (fa_cons (vUq tA0 (by decide)) (fa_cons (vUq tA134 (by decide)) (fa_cons (vUq tA125 (by decide)) (fa_nil))))) (by decide +kernel)
/-- X12_readClause -/
def tA148c : aCt := (186, [aR [314]], [zlb_y0, zlb_y11, zlb_y16, zlb_y18, zlb_y1, zlb_y14, zlb_y15], [(none, [(lLo, lHi)], [zlb_y4]), (none, [(lLo, lHi)], [zlb_y11, zlb_y18, zlb_y52, zlb_y0, zlb_y14, zlb_y15, zlb_y46, zlb_y47]), (none, [(lLo, lHi)], ([zlb_y16, zlb_y18, zlb_y17, zlb_y0, zlb_y14, zlb_y15] ++ (rdF 1)))], [(314, 10, 12), (314, 28, 30), (321, 0, 4), (323, 6, 8)])
set_option maxRecDepth 100000 in
theorem tA148 : vC tS tRA jM 12 tA148c := chkF_ok (D := 11) (hst := jM_st (by decide +kernel)) (T := [(fA0c 0), tA0c, tA143c, tA105c]) (N := []) (sp := []) (fu := 59) (fa_cons (vUq (fA0 0) (by decide)) (fa_cons (vUq tA0 (by decide)) (fa_cons (vUq tA143 (by decide)) (fa_cons (vUq tA105 (by decide)) (fa_nil))))) (by decide +kernel)
/-- X12_readItems -/
def tA149c : aCt := (185, [aR [314], aI 101 101, aR [321], aI 16 16, aR [1003]], zlb_q0, [(none, zlb_l5, [zlb_y0, zlb_y53, zlb_y54, zlb_y55, zlb_y56]), (none, zlb_l5, [zlb_y4])], [(314, 10, 12), (321, 16, 20)])
set_option maxRecDepth 100000 in
theorem tA149 : vC tS tRA jM 11 tA149c := chkF_ok (D := 10) (hst := jM_st (by decide +kernel)) (T := [(fA3c 0), tA26c, tA27c, tA28c, tA29c, tA30c, (fA0c 0), tA35c, tA36c, tA8c, tA37c, tA38c, tA13c, tA14c, tA39c, tA40c, tA41c, tA42c, tA43c, tA45c, tA46c, tA47c, tA48c, tA50c, tA19c, tA0c, tA20c, tA51c, tA52c, tA21c, tA22c, tA53c, tA54c, tA55c, tA56c, tA57c, tA58c, tA59c, tA60c, tA61c, tA62c, tA23c, tA24c, tA63c, tA64c, tA65c, tA66c, tA67c, tA68c, tA69c, tA70c, tA71c, tA72c, tA73c, tA74c, tA75c, tA76c, tA77c, tA78c, tA79c, tA80c, tA81c, tA82c, tA83c, tA84c, tA85c, tA86c, tA87c, tA88c, tA89c, tA90c, tA91c, tA92c, tA93c, tA94c, tA95c, tA96c, tA97c, tA98c, tA99c, tA100c, tA101c, tA102c, tA103c, tA104c]) (N := [(3, [zlb_x0, zlb_x12, zlb_x13, zlb_x31, zlb_x15, zlb_x5], zlb_q0, 9, []),
  (3, [zlb_x0, zlb_x12, zlb_x13, zlb_x31, zlb_x15, zlb_x6], [zlb_y0, zlb_y1, zlb_y57], 8, []),
  (3, [zlb_x0, zlb_x12, zlb_x13, zlb_x31, zlb_x15, zlb_x7], [zlb_y0, zlb_y1, zlb_y57, zlb_y58], 7, []),
  (3, [zlb_x0, zlb_x12, zlb_x13, zlb_x31, zlb_x15, zlb_x11], [zlb_y0, zlb_y1, zlb_y57, zlb_y58, zlb_y59], 6, []),
  (3, [zlb_x0, zlb_x12, zlb_x13, zlb_x31, zlb_x15, zlb_x16], zlb_q17, 5, []),
  (45, [zlb_x0, zlb_x12, zlb_x13, zlb_x31, zlb_x15, zlb_x5, zlb_x8], zlb_q18, 4, []),
  (45, [zlb_x0, zlb_x12, zlb_x13, zlb_x31, zlb_x15, zlb_x5, zlb_x9], zlb_q18, 4, []),
  (45, [zlb_x0, zlb_x12, zlb_x13, zlb_x31, zlb_x15, zlb_x5, zlb_x17], zlb_q18, 4, []),
  (45, [zlb_x0, zlb_x12, zlb_x13, zlb_x31, zlb_x15, zlb_x5, zlb_x18], zlb_q18, 4, []),
  (45, [zlb_x0, zlb_x12, zlb_x13, zlb_x31, zlb_x15, zlb_x5, zlb_x10], zlb_q17, 0, []),
  (45, [zlb_x0, zlb_x12, zlb_x13, zlb_x31, zlb_x15, zlb_x6, zlb_x8], [zlb_y1, zlb_y58, zlb_y59, zlb_y60, zlb_y61], 0, []),
  (45, [zlb_x0, zlb_x12, zlb_x13, zlb_x31, zlb_x15, zlb_x6, zlb_x9], zlb_q19, 3, []),
  (45, [zlb_x0, zlb_x12, zlb_x13, zlb_x31, zlb_x15, zlb_x6, zlb_x17], zlb_q19, 3, []),
  (45, [zlb_x0, zlb_x12, zlb_x13, zlb_x31, zlb_x15, zlb_x6, zlb_x18], zlb_q19, 3, []),
  (45, [zlb_x0, zlb_x12, zlb_x13, zlb_x31, zlb_x15, zlb_x6, zlb_x10], [zlb_y0, zlb_y1, zlb_y58, zlb_y59, zlb_y60, zlb_y53, zlb_y9], 0, []),
  (45, [zlb_x0, zlb_x12, zlb_x13, zlb_x31, zlb_x15, zlb_x7, zlb_x8], zlb_q20, 3, []),
  (45, [zlb_x0, zlb_x12, zlb_x13, zlb_x31, zlb_x15, zlb_x7, zlb_x9], [zlb_y1, zlb_y57, zlb_y59, zlb_y60, zlb_y62], 0, []),
  (45, [zlb_x0, zlb_x12, zlb_x13, zlb_x31, zlb_x15, zlb_x7, zlb_x17], zlb_q20, 3, []),
  (45, [zlb_x0, zlb_x12, zlb_x13, zlb_x31, zlb_x15, zlb_x7, zlb_x18], zlb_q20, 3, []),
  (45, [zlb_x0, zlb_x12, zlb_x13, zlb_x31, zlb_x15, zlb_x7, zlb_x10], [zlb_y0, zlb_y1, zlb_y57, zlb_y59, zlb_y60, zlb_y54, zlb_y9], 0, []),
  (45, [zlb_x0, zlb_x12, zlb_x13, zlb_x31, zlb_x15, zlb_x16, zlb_x8], zlb_q21, 3, []),
  (45, [zlb_x0, zlb_x12, zlb_x13, zlb_x31, zlb_x15, zlb_x16, zlb_x9], zlb_q21, 3, []),
  (45, [zlb_x0, zlb_x12, zlb_x13, zlb_x31, zlb_x15, zlb_x16, zlb_x17], [zlb_y1, zlb_y57, zlb_y58, zlb_y60, zlb_y63], 0, []),
  (45, [zlb_x0, zlb_x12, zlb_x13, zlb_x31, zlb_x15, zlb_x16, zlb_x18], zlb_q21, 3, []),
  (45, [zlb_x0, zlb_x12, zlb_x13, zlb_x31, zlb_x15, zlb_x16, zlb_x10], [zlb_y0, zlb_y1, zlb_y57, zlb_y58, zlb_y60, zlb_y55, zlb_y9], 0, []),
  (45, [zlb_x0, zlb_x12, zlb_x13, zlb_x31, zlb_x15, zlb_x19, zlb_x8], zlb_q22, 3, []),
  (45, [zlb_x0, zlb_x12, zlb_x13, zlb_x31, zlb_x15, zlb_x19, zlb_x9], zlb_q22, 3, []),
  (45, [zlb_x0, zlb_x12, zlb_x13, zlb_x31, zlb_x15, zlb_x19, zlb_x17], zlb_q22, 3, []),
  (45, [zlb_x0, zlb_x12, zlb_x13, zlb_x31, zlb_x15, zlb_x19, zlb_x18], [zlb_y1, zlb_y57, zlb_y58, zlb_y59, zlb_y64], 0, []),
  (45, [zlb_x0, zlb_x12, zlb_x13, zlb_x31, zlb_x15, zlb_x19, zlb_x10], [zlb_y0, zlb_y1, zlb_y57, zlb_y58, zlb_y59, zlb_y56, zlb_y9], 0, []),
  (45, [zlb_x0, zlb_x12, zlb_x13, zlb_x31, zlb_x15, zlb_x11, zlb_x8], [zlb_y1, zlb_y59, zlb_y60, zlb_y61, zlb_y54], 0, []),
  (45, [zlb_x0, zlb_x12, zlb_x13, zlb_x31, zlb_x15, zlb_x11, zlb_x9], [zlb_y1, zlb_y59, zlb_y60, zlb_y53, zlb_y62], 0, []),
  (45, [zlb_x0, zlb_x12, zlb_x13, zlb_x31, zlb_x15, zlb_x11, zlb_x17], zlb_q23, 2, []),
  (45, [zlb_x0, zlb_x12, zlb_x13, zlb_x31, zlb_x15, zlb_x11, zlb_x18], zlb_q23, 2, []),
  (45, [zlb_x0, zlb_x12, zlb_x13, zlb_x31, zlb_x15, zlb_x11, zlb_x10], [zlb_y0, zlb_y1, zlb_y59, zlb_y60, zlb_y53, zlb_y54, zlb_y9], 0, []),
  (45, [zlb_x0, zlb_x12, zlb_x13, zlb_x31, zlb_x15, zlb_x20, zlb_x8], [zlb_y1, zlb_y58, zlb_y60, zlb_y61, zlb_y55], 0, []),
  (45, [zlb_x0, zlb_x12, zlb_x13, zlb_x31, zlb_x15, zlb_x20, zlb_x9], zlb_q24, 2, []),
  (45, [zlb_x0, zlb_x12, zlb_x13, zlb_x31, zlb_x15, zlb_x20, zlb_x17], [zlb_y1, zlb_y58, zlb_y60, zlb_y53, zlb_y63], 0, []),
  (45, [zlb_x0, zlb_x12, zlb_x13, zlb_x31, zlb_x15, zlb_x20, zlb_x18], zlb_q24, 2, []),
  (45, [zlb_x0, zlb_x12, zlb_x13, zlb_x31, zlb_x15, zlb_x20, zlb_x10], [zlb_y0, zlb_y1, zlb_y58, zlb_y60, zlb_y53, zlb_y55, zlb_y9], 0, []),
  (45, [zlb_x0, zlb_x12, zlb_x13, zlb_x31, zlb_x15, zlb_x21, zlb_x8], [zlb_y1, zlb_y58, zlb_y59, zlb_y61, zlb_y56], 0, []),
  (45, [zlb_x0, zlb_x12, zlb_x13, zlb_x31, zlb_x15, zlb_x21, zlb_x9], zlb_q25, 2, []),
  (45, [zlb_x0, zlb_x12, zlb_x13, zlb_x31, zlb_x15, zlb_x21, zlb_x17], zlb_q25, 2, []),
  (45, [zlb_x0, zlb_x12, zlb_x13, zlb_x31, zlb_x15, zlb_x21, zlb_x18], [zlb_y1, zlb_y58, zlb_y59, zlb_y53, zlb_y64], 0, []),
  (45, [zlb_x0, zlb_x12, zlb_x13, zlb_x31, zlb_x15, zlb_x21, zlb_x10], [zlb_y0, zlb_y1, zlb_y58, zlb_y59, zlb_y53, zlb_y56, zlb_y9], 0, []),
  (45, [zlb_x0, zlb_x12, zlb_x13, zlb_x31, zlb_x15, zlb_x22, zlb_x8], zlb_q26, 2, []),
  (45, [zlb_x0, zlb_x12, zlb_x13, zlb_x31, zlb_x15, zlb_x22, zlb_x9], [zlb_y1, zlb_y57, zlb_y60, zlb_y62, zlb_y55], 0, []),
  (45, [zlb_x0, zlb_x12, zlb_x13, zlb_x31, zlb_x15, zlb_x22, zlb_x17], [zlb_y1, zlb_y57, zlb_y60, zlb_y54, zlb_y63], 0, []),
  (45, [zlb_x0, zlb_x12, zlb_x13, zlb_x31, zlb_x15, zlb_x22, zlb_x18], zlb_q26, 2, []),
  (45, [zlb_x0, zlb_x12, zlb_x13, zlb_x31, zlb_x15, zlb_x22, zlb_x10], [zlb_y0, zlb_y1, zlb_y57, zlb_y60, zlb_y54, zlb_y55, zlb_y9], 0, []),
  (45, [zlb_x0, zlb_x12, zlb_x13, zlb_x31, zlb_x15, zlb_x23, zlb_x8], zlb_q27, 2, []),
  (45, [zlb_x0, zlb_x12, zlb_x13, zlb_x31, zlb_x15, zlb_x23, zlb_x9], [zlb_y1, zlb_y57, zlb_y59, zlb_y62, zlb_y56], 0, []),
  (45, [zlb_x0, zlb_x12, zlb_x13, zlb_x31, zlb_x15, zlb_x23, zlb_x17], zlb_q27, 2, []),
  (45, [zlb_x0, zlb_x12, zlb_x13, zlb_x31, zlb_x15, zlb_x23, zlb_x18], [zlb_y1, zlb_y57, zlb_y59, zlb_y54, zlb_y64], 0, []),
  (45, [zlb_x0, zlb_x12, zlb_x13, zlb_x31, zlb_x15, zlb_x23, zlb_x10], [zlb_y0, zlb_y1, zlb_y57, zlb_y59, zlb_y54, zlb_y56, zlb_y9], 0, []),
  (45, [zlb_x0, zlb_x12, zlb_x13, zlb_x31, zlb_x15, zlb_x24, zlb_x8], zlb_q28, 2, []),
  (45, [zlb_x0, zlb_x12, zlb_x13, zlb_x31, zlb_x15, zlb_x24, zlb_x9], zlb_q28, 2, []),
  (45, [zlb_x0, zlb_x12, zlb_x13, zlb_x31, zlb_x15, zlb_x24, zlb_x17], [zlb_y1, zlb_y57, zlb_y58, zlb_y63, zlb_y56], 0, []),
  (45, [zlb_x0, zlb_x12, zlb_x13, zlb_x31, zlb_x15, zlb_x24, zlb_x18], [zlb_y1, zlb_y57, zlb_y58, zlb_y55, zlb_y64], 0, []),
  (45, [zlb_x0, zlb_x12, zlb_x13, zlb_x31, zlb_x15, zlb_x24, zlb_x10], [zlb_y0, zlb_y1, zlb_y57, zlb_y58, zlb_y55, zlb_y56, zlb_y9], 0, []),
  (45, [zlb_x0, zlb_x12, zlb_x13, zlb_x31, zlb_x15, zlb_x25, zlb_x8], [zlb_y1, zlb_y60, zlb_y61, zlb_y54, zlb_y55], 0, []),
  (45, [zlb_x0, zlb_x12, zlb_x13, zlb_x31, zlb_x15, zlb_x25, zlb_x9], [zlb_y1, zlb_y60, zlb_y53, zlb_y62, zlb_y55], 0, []),
  (45, [zlb_x0, zlb_x12, zlb_x13, zlb_x31, zlb_x15, zlb_x25, zlb_x17], [zlb_y1, zlb_y60, zlb_y53, zlb_y54, zlb_y63], 0, []),
  (45, [zlb_x0, zlb_x12, zlb_x13, zlb_x31, zlb_x15, zlb_x25, zlb_x18], [zlb_y0, zlb_y1, zlb_y60, zlb_y53, zlb_y54, zlb_y55, zlb_y7], 1, []),
  (45, [zlb_x0, zlb_x12, zlb_x13, zlb_x31, zlb_x15, zlb_x25, zlb_x10], [zlb_y0, zlb_y1, zlb_y60, zlb_y53, zlb_y54, zlb_y55, zlb_y9], 0, []),
  (45, [zlb_x0, zlb_x12, zlb_x13, zlb_x31, zlb_x15, zlb_x26, zlb_x8], [zlb_y1, zlb_y59, zlb_y61, zlb_y54, zlb_y56], 0, []),
  (45, [zlb_x0, zlb_x12, zlb_x13, zlb_x31, zlb_x15, zlb_x26, zlb_x9], [zlb_y1, zlb_y59, zlb_y53, zlb_y62, zlb_y56], 0, []),
  (45, [zlb_x0, zlb_x12, zlb_x13, zlb_x31, zlb_x15, zlb_x26, zlb_x17], [zlb_y0, zlb_y1, zlb_y59, zlb_y53, zlb_y54, zlb_y56, zlb_y7], 1, []),
  (45, [zlb_x0, zlb_x12, zlb_x13, zlb_x31, zlb_x15, zlb_x26, zlb_x18], [zlb_y1, zlb_y59, zlb_y53, zlb_y54, zlb_y64], 0, []),
  (45, [zlb_x0, zlb_x12, zlb_x13, zlb_x31, zlb_x15, zlb_x26, zlb_x10], [zlb_y0, zlb_y1, zlb_y59, zlb_y53, zlb_y54, zlb_y56, zlb_y9], 0, []),
  (45, [zlb_x0, zlb_x12, zlb_x13, zlb_x31, zlb_x15, zlb_x27, zlb_x8], [zlb_y1, zlb_y58, zlb_y61, zlb_y55, zlb_y56], 0, []),
  (45, [zlb_x0, zlb_x12, zlb_x13, zlb_x31, zlb_x15, zlb_x27, zlb_x9], [zlb_y0, zlb_y1, zlb_y58, zlb_y53, zlb_y55, zlb_y56, zlb_y7], 1, []),
  (45, [zlb_x0, zlb_x12, zlb_x13, zlb_x31, zlb_x15, zlb_x27, zlb_x17], [zlb_y1, zlb_y58, zlb_y53, zlb_y63, zlb_y56], 0, []),
  (45, [zlb_x0, zlb_x12, zlb_x13, zlb_x31, zlb_x15, zlb_x27, zlb_x18], [zlb_y1, zlb_y58, zlb_y53, zlb_y55, zlb_y64], 0, []),
  (45, [zlb_x0, zlb_x12, zlb_x13, zlb_x31, zlb_x15, zlb_x27, zlb_x10], [zlb_y0, zlb_y1, zlb_y58, zlb_y53, zlb_y55, zlb_y56, zlb_y9], 0, []),
  (45, [zlb_x0, zlb_x12, zlb_x13, zlb_x31, zlb_x15, zlb_x28, zlb_x8], [zlb_y0, zlb_y1, zlb_y57, zlb_y54, zlb_y55, zlb_y56, zlb_y7], 1, []),
  (45, [zlb_x0, zlb_x12, zlb_x13, zlb_x31, zlb_x15, zlb_x28, zlb_x9], [zlb_y1, zlb_y57, zlb_y62, zlb_y55, zlb_y56], 0, []),
  (45, [zlb_x0, zlb_x12, zlb_x13, zlb_x31, zlb_x15, zlb_x28, zlb_x17], [zlb_y1, zlb_y57, zlb_y54, zlb_y63, zlb_y56], 0, []),
  (45, [zlb_x0, zlb_x12, zlb_x13, zlb_x31, zlb_x15, zlb_x28, zlb_x18], [zlb_y1, zlb_y57, zlb_y54, zlb_y55, zlb_y64], 0, []),
  (45, [zlb_x0, zlb_x12, zlb_x13, zlb_x31, zlb_x15, zlb_x28, zlb_x10], [zlb_y0, zlb_y1, zlb_y57, zlb_y54, zlb_y55, zlb_y56, zlb_y9], 0, []),
  (45, [zlb_x0, zlb_x12, zlb_x13, zlb_x31, zlb_x15, zlb_x29, zlb_x8], [zlb_y1, zlb_y61, zlb_y54, zlb_y55, zlb_y56], 0, []),
  (45, [zlb_x0, zlb_x12, zlb_x13, zlb_x31, zlb_x15, zlb_x29, zlb_x9], [zlb_y1, zlb_y53, zlb_y62, zlb_y55, zlb_y56], 0, []),
  (45, [zlb_x0, zlb_x12, zlb_x13, zlb_x31, zlb_x15, zlb_x29, zlb_x17], [zlb_y1, zlb_y53, zlb_y54, zlb_y63, zlb_y56], 0, []),
  (45, [zlb_x0, zlb_x12, zlb_x13, zlb_x31, zlb_x15, zlb_x29, zlb_x18], [zlb_y1, zlb_y53, zlb_y54, zlb_y55, zlb_y64], 0, []),
  (45, [zlb_x0, zlb_x12, zlb_x13, zlb_x31, zlb_x15, zlb_x29, zlb_x10], [zlb_y0, zlb_y1, zlb_y53, zlb_y54, zlb_y55, zlb_y56, zlb_y9], 0, [])]) (sp := [(3, 5), (45, 6)]) (fu := 54) (fa_cons (vUq (fA3 0) (by decide)) (fa_cons (vUq tA26 (by decide)) (fa_cons (vUq tA27 (by decide)) (fa_cons (vUq tA28 (by decide)) (fa_cons (vUq tA29 (by decide)) (fa_cons (vUq tA30 (by decide)) (fa_cons (vUq (fA0 0) (by decide)) (fa_cons (vUq tA35 (by decide)) (fa_cons (vUq tA36 (by decide)) (fa_cons (vUq tA8 (by decide)) (fa_cons (vUq tA37 (by decide)) (fa_cons (vUq tA38 (by decide)) (fa_cons (vUq tA13 (by decide)) (fa_cons (vUq tA14 (by decide)) (fa_cons (vUq tA39 (by decide)) (fa_cons (vUq tA40 (by decide)) (fa_cons (vUq tA41 (by decide)) (fa_cons (vUq tA42 (by decide)) (fa_cons (vUq tA43 (by decide)) (fa_cons (vUq tA45 (by decide)) (fa_cons (vUq tA46 (by decide)) (fa_cons (vUq tA47 (by decide)) (fa_cons (vUq tA48 (by decide)) (fa_cons (vUq tA50 (by decide)) (fa_cons (vUq tA19 (by decide)) (fa_cons (vUq tA0 (by decide)) (fa_cons (vUq tA20 (by decide)) (fa_cons (vUq tA51 (by decide)) (fa_cons (vUq tA52 (by decide)) (fa_cons (vUq tA21 (by decide)) (fa_cons (vUq tA22 (by decide)) (fa_cons (vUq tA53 (by decide)) (fa_cons (vUq tA54 (by decide)) (fa_cons (vUq tA55 (by decide)) (fa_cons (vUq tA56 (by decide)) (fa_cons (vUq tA57 (by decide)) (fa_cons (vUq tA58 (by decide)) (fa_cons (vUq tA59 (by decide)) (fa_cons (vUq tA60 (by decide)) (fa_cons (vUq tA61 (by decide)) (fa_cons (vUq tA62 (by decide)) (fa_cons (vUq tA23 (by decide)) (fa_cons (vUq tA24 (by decide)) (fa_cons (vUq tA63 (by decide)) (fa_cons (vUq tA64 (by decide)) (fa_cons (vUq tA65 (by decide)) (fa_cons (vUq tA66 (by decide)) (fa_cons (vUq tA67 (by decide)) (fa_cons (vUq tA68 (by decide)) (fa_cons (vUq tA69 (by decide)) (fa_cons (vUq tA70 (by decide)) (fa_cons (vUq tA71 (by decide)) (fa_cons (vUq tA72 (by decide)) (fa_cons (vUq tA73 (by decide)) (fa_cons (vUq tA74 (by decide)) (fa_cons (vUq tA75 (by decide)) (fa_cons (vUq tA76 (by decide)) (fa_cons (vUq tA77 (by decide)) (fa_cons (vUq tA78 (by decide)) (fa_cons (vUq tA79 (by decide)) (fa_cons (vUq tA80 (by decide)) (fa_cons (vUq tA81 (by decide)) (fa_cons (vUq tA82 (by decide)) (fa_cons (vUq tA83 (by decide)) (fa_cons (vUq tA84 (by decide)) (fa_cons (vUq tA85 (by decide)) (fa_cons (vUq tA86 (by decide)) (fa_cons (vUq tA87 (by decide)) (fa_cons (vUq tA88 (by decide)) (fa_cons (vUq tA89 (by decide)) (fa_cons (vUq tA90 (by decide)) (fa_cons (vUq tA91 (by decide)) (fa_cons (vUq tA92 (by decide)) (fa_cons (vUq tA93 (by decide)) (fa_cons (vUq tA94 (by decide)) (fa_cons (vUq tA95 (by decide)) (fa_cons (vUq tA96 (by decide)) (fa_cons (vUq tA97 (by decide)) (fa_cons (vUq tA98 (by decide)) (fa_cons (vUq tA99 (by decide)) (fa_cons (vUq tA100 (by decide)) (fa_cons (vUq tA101 (by decide)) (fa_cons (vUq tA102 (by decide)) (fa_cons (vUq tA103 (by decide)) (fa_cons (vUq tA104 (by decide)) (fa_nil)))))))))))))))))))))))))))))))))))))))))))))))))))))))))))))))))))))))))))))))))))))) (by decide +kernel)
/-- X12_readClause -/
def tA150c : aCt := (186, [aR [314]], [zlb_y0, zlb_y45, zlb_y20, zlb_y13, zlb_y1, zlb_y14, zlb_y15], [(none, [(lLo, lHi)], [zlb_y4]), (none, [(lLo, lHi)], ([zlb_y45, zlb_y13, zlb_y21, zlb_y0, zlb_y14, zlb_y15] ++ ([] ++ fkF 1))), (none, [(lLo, lHi)], [zlb_y20, zlb_y13, zlb_y65, zlb_y0, zlb_y14, zlb_y15, zlb_y53, zlb_y54, zlb_y55, zlb_y56]), (none, [(lLo, lHi)], [zlb_y45, zlb_y20, zlb_y18, zlb_y0, zlb_y14, zlb_y15])], [(314, 10, 12), (314, 28, 30), (314, 31, 32), (319, 0, 2), (321, 16, 20), (323, 0, 2)])
set_option maxRecDepth 100000 in
theorem tA150 : vC tS tRA jM 12 tA150c := chkF_ok (D := 11) (hst := jM_st (by decide +kernel)) (T := [(fA0c 0), tA0c, tA25c, tA149c, tA121c]) (N := []) (sp := []) (fu := 59) (fa_cons (vUq (fA0 0) (by decide)) (fa_cons (vUq tA0 (by decide)) (fa_cons (vUq tA25 (by decide)) (fa_cons (vUq tA149 (by decide)) (fa_cons (vUq tA121 (by decide)) (fa_nil)))))) (by decide +kernel)
/-- X12_readClause -/
def tA151c : aCt := (186, [aR [314]], [zlb_y0, zlb_y22, zlb_y21, zlb_y13, zlb_y1, zlb_y14, zlb_y15], [(none, [(lLo, lHi)], [zlb_y4]), (none, [(lLo, lHi)], [zlb_y22, zlb_y13, zlb_y12, zlb_y0, zlb_y14, zlb_y15, zlb_y27, zlb_y28]), (none, [(lLo, lHi)], [zlb_y21, zlb_y13, zlb_y45, zlb_y0, zlb_y14, zlb_y15, zlb_y33, zlb_y34, zlb_y35, zlb_y36]), (none, [(lLo, lHi)], [zlb_y22, zlb_y21, zlb_y18, zlb_y0, zlb_y14, zlb_y15])], [(314, 10, 12), (314, 28, 30), (314, 31, 32), (319, 0, 2), (321, 12, 16), (323, 2, 4)])
set_option maxRecDepth 100000 in
theorem tA151 : vC tS tRA jM 12 tA151c := chkF_ok (D := 11) (hst := jM_st (by decide +kernel)) (T := [(fA0c 0), tA0c, tA127c, tA139c, tA121c]) (N := []) (sp := []) (fu := 59) (fa_cons (vUq (fA0 0) (by decide)) (fa_cons (vUq tA0 (by decide)) (fa_cons (vUq tA127 (by decide)) (fa_cons (vUq tA139 (by decide)) (fa_cons (vUq tA121 (by decide)) (fa_nil)))))) (by decide +kernel)
/-- X12_readClause -/
def tA152c : aCt := (186, [aR [314]], [zlb_y0, zlb_y19, zlb_y12, zlb_y13, zlb_y1, zlb_y14, zlb_y15], [(none, [(lLo, lHi)], [zlb_y4]), (none, [(lLo, lHi)], [zlb_y19, zlb_y13, zlb_y16, zlb_y0, zlb_y14, zlb_y15, zlb_y2, zlb_y3]), (none, [(lLo, lHi)], [zlb_y12, zlb_y13, zlb_y22, zlb_y0, zlb_y14, zlb_y15, zlb_y23, zlb_y24, zlb_y25, zlb_y26]), (none, [(lLo, lHi)], [zlb_y19, zlb_y12, zlb_y18, zlb_y0, zlb_y14, zlb_y15])], [(314, 10, 12), (314, 28, 30), (314, 31, 32), (319, 0, 2), (321, 8, 12), (323, 4, 6)])
set_option maxRecDepth 100000 in
theorem tA152 : vC tS tRA jM 12 tA152c := chkF_ok (D := 11) (hst := jM_st (by decide +kernel)) (T := [(fA0c 0), tA0c, tA134c, tA131c, tA121c]) (N := []) (sp := []) (fu := 59) (fa_cons (vUq (fA0 0) (by decide)) (fa_cons (vUq tA0 (by decide)) (fa_cons (vUq tA134 (by decide)) (fa_cons (vUq tA131 (by decide)) (fa_cons (vUq tA121 (by decide)) (fa_nil)))))) (by decide +kernel)
/-- X12_readClause -/
def tA153c : aCt := (186, [aR [314]], [zlb_y0, zlb_y17, zlb_y16, zlb_y13, zlb_y1, zlb_y14, zlb_y15], [(none, [(lLo, lHi)], [zlb_y4]), (none, [(lLo, lHi)], [zlb_y17, zlb_y13, zlb_y52, zlb_y0, zlb_y14, zlb_y15, zlb_y46, zlb_y47]), (none, [(lLo, lHi)], [zlb_y16, zlb_y13, zlb_y19, zlb_y0, zlb_y14, zlb_y15, zlb_y29, zlb_y30, zlb_y31, zlb_y32]), (none, [(lLo, lHi)], [zlb_y17, zlb_y16, zlb_y18, zlb_y0, zlb_y14, zlb_y15])], [(314, 10, 12), (314, 28, 30), (314, 31, 32), (319, 0, 2), (321, 4, 8), (323, 6, 8)])
set_option maxRecDepth 100000 in
theorem tA153 : vC tS tRA jM 12 tA153c := chkF_ok (D := 11) (hst := jM_st (by decide +kernel)) (T := [(fA0c 0), tA0c, tA143c, tA125c, tA121c]) (N := []) (sp := []) (fu := 59) (fa_cons (vUq (fA0 0) (by decide)) (fa_cons (vUq tA0 (by decide)) (fa_cons (vUq tA143 (by decide)) (fa_cons (vUq tA125 (by decide)) (fa_cons (vUq tA121 (by decide)) (fa_nil)))))) (by decide +kernel)
/-- X12_readClause -/
def tA154c : aCt := (186, [aR [314]], [zlb_y0, zlb_y11, zlb_y52, zlb_y13, zlb_y1, zlb_y14, zlb_y15], [(none, [(lLo, lHi)], [zlb_y4]), (none, [(lLo, lHi)], ([zlb_y52, zlb_y13, zlb_y17, zlb_y0, zlb_y14, zlb_y15] ++ (rdF 1))), (none, [(lLo, lHi)], [zlb_y11, zlb_y52, zlb_y18, zlb_y0, zlb_y14, zlb_y15])], [(314, 10, 12), (314, 28, 29), (314, 31, 32), (319, 0, 2), (321, 0, 4)])
set_option maxRecDepth 100000 in
theorem tA154 : vC tS tRA jM 12 tA154c := chkF_ok (D := 11) (hst := jM_st (by decide +kernel)) (T := [(fA0c 0), tA0c, tA105c, tA121c]) (N := []) (sp := []) (fu := 57) (fa_cons (vUq (fA0 0) (by decide)) (fa_cons (vUq tA0 (by decide)) (fa_cons (vUq tA105 (by decide)) (fa_cons (vUq tA121 (by decide)) (fa_nil))))) (by decide +kernel)
/-- X12_readClause -/
def tA155c : aCt := (186, [aR [314]], [zlb_y0, zlb_y45, zlb_y20, zlb_y18, zlb_y1, zlb_y14, zlb_y15], [(none, [(lLo, lHi)], [zlb_y4]), (none, [(lLo, lHi)], ([zlb_y45, zlb_y18, zlb_y21, zlb_y0, zlb_y14, zlb_y15] ++ ([] ++ fkF 1))), (none, [(lLo, lHi)], [zlb_y20, zlb_y18, zlb_y65, zlb_y0, zlb_y14, zlb_y15, zlb_y53, zlb_y54, zlb_y55, zlb_y56])], [(314, 10, 12), (314, 28, 30), (321, 16, 20), (323, 0, 2)])
set_option maxRecDepth 100000 in
theorem tA155 : vC tS tRA jM 12 tA155c := chkF_ok (D := 11) (hst := jM_st (by decide +kernel)) (T := [(fA0c 0), tA0c, tA25c, tA149c]) (N := []) (sp := []) (fu := 59) (fa_cons (vUq (fA0 0) (by decide)) (fa_cons (vUq tA0 (by decide)) (fa_cons (vUq tA25 (by decide)) (fa_cons (vUq tA149 (by decide)) (fa_nil))))) (by decide +kernel)
/-- X12_readClause -/
def tA156c : aCt := (186, [aR [314]], [zlb_y0, zlb_y22, zlb_y21, zlb_y18, zlb_y1, zlb_y14, zlb_y15], [(none, [(lLo, lHi)], [zlb_y4]), (none, [(lLo, lHi)], [zlb_y22, zlb_y18, zlb_y12, zlb_y0, zlb_y14, zlb_y15, zlb_y27, zlb_y28]), (none, [(lLo, lHi)], [zlb_y21, zlb_y18, zlb_y45, zlb_y0, zlb_y14, zlb_y15, zlb_y33, zlb_y34, zlb_y35, zlb_y36])], [(314, 10, 12), (314, 28, 30), (321, 12, 16), (323, 2, 4)])
set_option maxRecDepth 100000 in
theorem tA156 : vC tS tRA jM 12 tA156c := chkF_ok (D := 11) (hst := jM_st (by decide +kernel)) (T := [(fA0c 0), tA0c, tA127c, tA139c]) (N := []) (sp := []) (fu := 59) (fa_cons (vUq (fA0 0) (by decide)) (fa_cons (vUq tA0 (by decide)) (fa_cons (vUq tA127 (by decide)) (fa_cons (vUq tA139 (by decide)) (fa_nil))))) (by decide +kernel)
/-- X12_readClause -/
def tA157c : aCt := (186, [aR [314]], [zlb_y0, zlb_y19, zlb_y12, zlb_y18, zlb_y1, zlb_y14, zlb_y15], [(none, [(lLo, lHi)], [zlb_y4]), (none, [(lLo, lHi)], [zlb_y19, zlb_y18, zlb_y16, zlb_y0, zlb_y14, zlb_y15, zlb_y2, zlb_y3]), (none, [(lLo, lHi)], [zlb_y12, zlb_y18, zlb_y22, zlb_y0, zlb_y14, zlb_y15, zlb_y23, zlb_y24, zlb_y25, zlb_y26])], [(314, 10, 12), (314, 28, 30), (321, 8, 12), (323, 4, 6)])
set_option maxRecDepth 100000 in
theorem tA157 : vC tS tRA jM 12 tA157c := chkF_ok (D := 11) (hst := jM_st (by decide +kernel)) (T := [(fA0c 0), tA0c, tA134c, tA131c]) (N := []) (sp := []) (fu := 59) (fa_cons (vUq (fA0 0) (by decide)) (fa_cons (vUq tA0 (by decide)) (fa_cons (vUq tA134 (by decide)) (fa_cons (vUq tA131 (by decide)) (fa_nil))))) (by decide +kernel)
/-- X12_readClause -/
def tA158c : aCt := (186, [aR [314]], [zlb_y0, zlb_y17, zlb_y16, zlb_y18, zlb_y1, zlb_y14, zlb_y15], [(none, [(lLo, lHi)], [zlb_y4]), (none, [(lLo, lHi)], [zlb_y17, zlb_y18, zlb_y52, zlb_y0, zlb_y14, zlb_y15, zlb_y46, zlb_y47]), (none, [(lLo, lHi)], [zlb_y16, zlb_y18, zlb_y19, zlb_y0, zlb_y14, zlb_y15, zlb_y29, zlb_y30, zlb_y31, zlb_y32])], [(314, 10, 12), (314, 28, 30), (321, 4, 8), (323, 6, 8)])
set_option maxRecDepth 100000 in
theorem tA158 : vC tS tRA jM 12 tA158c := chkF_ok (D := 11) (hst := jM_st (by decide +kernel)) (T := [(fA0c 0), tA0c, tA143c, tA125c]) (N := []) (sp := []) (fu := 59) (fa_cons (vUq (fA0 0) (by decide)) (fa_cons (vUq tA0 (by decide)) (fa_cons (vUq tA143 (by decide)) (fa_cons (vUq tA125 (by decide)) (fa_nil))))) (by decide +kernel)
/-- X12_readClause -/
def tA159c : aCt := (186, [aR [314]], [zlb_y0, zlb_y11, zlb_y52, zlb_y18, zlb_y1, zlb_y14, zlb_y15], [(none, [(lLo, lHi)], [zlb_y4]), (none, [(lLo, lHi)], ([zlb_y52, zlb_y18, zlb_y17, zlb_y0, zlb_y14, zlb_y15] ++ (rdF 1)))], [(314, 10, 12), (314, 28, 29), (321, 0, 4)])
set_option maxRecDepth 100000 in
theorem tA159 : vC tS tRA jM 12 tA159c := chkF_ok (D := 11) (hst := jM_st (by decide +kernel)) (T := [(fA0c 0), tA0c, tA105c]) (N := []) (sp := []) (fu := 57) (fa_cons (vUq (fA0 0) (by decide)) (fa_cons (vUq tA0 (by decide)) (fa_cons (vUq tA105 (by decide)) (fa_nil)))) (by decide +kernel)
/-- X12_readItems -/
def tA160c : aCt := (185, [aR [314], aI 101 101, aR [321], aI 20 20, aR [1003]], zlb_q0, [(none, zlb_l5, [zlb_y0, zlb_y66, zlb_y67, zlb_y68, zlb_y69]), (none, zlb_l5, [zlb_y4])], [(314, 10, 12), (321, 20, 24)])
set_option maxRecDepth 100000 in
theorem tA160 : vC tS tRA jM 11 tA160c := chkF_ok (D := 10) (hst := jM_st (by decide +kernel)) (T := [(fA3c 0), tA26c, tA27c, tA28c, tA29c, tA30c, (fA0c 0), tA35c, tA36c, tA8c, tA37c, tA38c, tA13c, tA14c, tA39c, tA40c, tA41c, tA42c, tA43c, tA45c, tA46c, tA47c, tA48c, tA50c, tA19c, tA0c, tA20c, tA51c, tA52c, tA21c, tA22c, tA53c, tA54c, tA55c, tA56c, tA57c, tA58c, tA59c, tA60c, tA61c, tA62c, tA23c, tA24c, tA63c, tA64c, tA65c, tA66c, tA67c, tA68c, tA69c, tA70c, tA71c, tA72c, tA73c, tA74c, tA75c, tA76c, tA77c, tA78c, tA79c, tA80c, tA81c, tA82c, tA83c, tA84c, tA85c, tA86c, tA87c, tA88c, tA89c, tA90c, tA91c, tA92c, tA93c, tA94c, tA95c, tA96c, tA97c, tA98c, tA99c, tA100c, tA101c, tA102c, tA103c, tA104c]) (N := [(3, [zlb_x0, zlb_x12, zlb_x13, zlb_x32, zlb_x15, zlb_x5], zlb_q0, 9, []),
  (3, [zlb_x0, zlb_x12, zlb_x13, zlb_x32, zlb_x15, zlb_x6], [zlb_y0, zlb_y1, zlb_y70], 8, []),
  (3, [zlb_x0, zlb_x12, zlb_x13, zlb_x32, zlb_x15, zlb_x7], [zlb_y0, zlb_y1, zlb_y70, zlb_y71], 7, []),
  (3, [zlb_x0, zlb_x12, zlb_x13, zlb_x32, zlb_x15, zlb_x11], [zlb_y0, zlb_y1, zlb_y70, zlb_y71, zlb_y72], 6, []),
  (3, [zlb_x0, zlb_x12, zlb_x13, zlb_x32, zlb_x15, zlb_x16], zlb_q29, 5, []),
  (45, [zlb_x0, zlb_x12, zlb_x13, zlb_x32, zlb_x15, zlb_x5, zlb_x8], zlb_q30, 4, []),
  (45, [zlb_x0, zlb_x12, zlb_x13, zlb_x32, zlb_x15, zlb_x5, zlb_x9], zlb_q30, 4, []),
  (45, [zlb_x0, zlb_x12, zlb_x13, zlb_x32, zlb_x15, zlb_x5, zlb_x17], zlb_q30, 4, []),
  (45, [zlb_x0, zlb_x12, zlb_x13, zlb_x32, zlb_x15, zlb_x5, zlb_x18], zlb_q30, 4, []),
  (45, [zlb_x0, zlb_x12, zlb_x13, zlb_x32, zlb_x15, zlb_x5, zlb_x10], zlb_q29, 0, []),
  (45, [zlb_x0, zlb_x12, zlb_x13, zlb_x32, zlb_x15, zlb_x6, zlb_x8], [zlb_y1, zlb_y71, zlb_y72, zlb_y73, zlb_y74], 0, []),
  (45, [zlb_x0, zlb_x12, zlb_x13, zlb_x32, zlb_x15, zlb_x6, zlb_x9], zlb_q31, 3, []),
  (45, [zlb_x0, zlb_x12, zlb_x13, zlb_x32, zlb_x15, zlb_x6, zlb_x17], zlb_q31, 3, []),
  (45, [zlb_x0, zlb_x12, zlb_x13, zlb_x32, zlb_x15, zlb_x6, zlb_x18], zlb_q31, 3, []),
  (45, [zlb_x0, zlb_x12, zlb_x13, zlb_x32, zlb_x15, zlb_x6, zlb_x10], [zlb_y0, zlb_y1, zlb_y71, zlb_y72, zlb_y73, zlb_y66, zlb_y9], 0, []),
  (45, [zlb_x0, zlb_x12, zlb_x13, zlb_x32, zlb_x15, zlb_x7, zlb_x8], zlb_q32, 3, []),
  (45, [zlb_x0, zlb_x12, zlb_x13, zlb_x32, zlb_x15, zlb_x7, zlb_x9], [zlb_y1, zlb_y70, zlb_y72, zlb_y73, zlb_y75], 0, []),
  (45, [zlb_x0, zlb_x12, zlb_x13, zlb_x32, zlb_x15, zlb_x7, zlb_x17], zlb_q32, 3, []),
  (45, [zlb_x0, zlb_x12, zlb_x13, zlb_x32, zlb_x15, zlb_x7, zlb_x18], zlb_q32, 3, []),
  (45, [zlb_x0, zlb_x12, zlb_x13, zlb_x32, zlb_x15, zlb_x7, zlb_x10], [zlb_y0, zlb_y1, zlb_y70, zlb_y72, zlb_y73, zlb_y67, zlb_y9], 0, []),
  (45, [zlb_x0, zlb_x12, zlb_x13, zlb_x32, zlb_x15, zlb_x16, zlb_x8], zlb_q33, 3, []),
  (45, [zlb_x0, zlb_x12, zlb_x13, zlb_x32, zlb_x15, zlb_x16, zlb_x9], zlb_q33, 3, []),
  (45, [zlb_x0, zlb_x12, zlb_x13, zlb_x32, zlb_x15, zlb_x16, zlb_x17], [zlb_y1, zlb_y70, zlb_y71, zlb_y73, zlb_y76], 0, []),
  (45, [zlb_x0, zlb_x12, zlb_x13, zlb_x32, zlb_x15, zlb_x16, zlb_x18], zlb_q33, 3, []),
  (45, [zlb_x0, zlb_x12, zlb_x13, zlb_x32, zlb_x15, zlb_x16, zlb_x10], [zlb_y0, zlb_y1, zlb_y70, zlb_y71, zlb_y73, zlb_y68, zlb_y9], 0, []),
  (45, [zlb_x0, zlb_x12, zlb_x13, zlb_x32, zlb_x15, zlb_x19, zlb_x8], zlb_q34, 3, []),
  (45, [zlb_x0, zlb_x12, zlb_x13, zlb_x32, zlb_x15, zlb_x19, zlb_x9], zlb_q34, 3, []),
  (45, [zlb_x0, zlb_x12, zlb_x13, zlb_x32, zlb_x15, zlb_x19, zlb_x17], zlb_q34, 3, []),
  (45, [zlb_x0, zlb_x12, zlb_x13, zlb_x32, zlb_x15, zlb_x19, zlb_x18], [zlb_y1, zlb_y70, zlb_y71, zlb_y72, zlb_y77], 0, []),
  (45, [zlb_x0, zlb_x12, zlb_x13, zlb_x32, zlb_x15, zlb_x19, zlb_x10], [zlb_y0, zlb_y1, zlb_y70, zlb_y71, zlb_y72, zlb_y69, zlb_y9], 0, []),
  (45, [zlb_x0, zlb_x12, zlb_x13, zlb_x32, zlb_x15, zlb_x11, zlb_x8], [zlb_y1, zlb_y72, zlb_y73, zlb_y74, zlb_y67], 0, []),
  (45, [zlb_x0, zlb_x12, zlb_x13, zlb_x32, zlb_x15, zlb_x11, zlb_x9], [zlb_y1, zlb_y72, zlb_y73, zlb_y66, zlb_y75], 0, []),
  (45, [zlb_x0, zlb_x12, zlb_x13, zlb_x32, zlb_x15, zlb_x11, zlb_x17], zlb_q35, 2, []),
  (45, [zlb_x0, zlb_x12, zlb_x13, zlb_x32, zlb_x15, zlb_x11, zlb_x18], zlb_q35, 2, []),
  (45, [zlb_x0, zlb_x12, zlb_x13, zlb_x32, zlb_x15, zlb_x11, zlb_x10], [zlb_y0, zlb_y1, zlb_y72, zlb_y73, zlb_y66, zlb_y67, zlb_y9], 0, []),
  (45, [zlb_x0, zlb_x12, zlb_x13, zlb_x32, zlb_x15, zlb_x20, zlb_x8], [zlb_y1, zlb_y71, zlb_y73, zlb_y74, zlb_y68], 0, []),
  (45, [zlb_x0, zlb_x12, zlb_x13, zlb_x32, zlb_x15, zlb_x20, zlb_x9], zlb_q36, 2, []),
  (45, [zlb_x0, zlb_x12, zlb_x13, zlb_x32, zlb_x15, zlb_x20, zlb_x17], [zlb_y1, zlb_y71, zlb_y73, zlb_y66, zlb_y76], 0, []),
  (45, [zlb_x0, zlb_x12, zlb_x13, zlb_x32, zlb_x15, zlb_x20, zlb_x18], zlb_q36, 2, []),
  (45, [zlb_x0, zlb_x12, zlb_x13, zlb_x32, zlb_x15, zlb_x20, zlb_x10], [zlb_y0, zlb_y1, zlb_y71, zlb_y73, zlb_y66, zlb_y68, zlb_y9], 0, []),
  (45, [zlb_x0, zlb_x12, zlb_x13, zlb_x32, zlb_x15, zlb_x21, zlb_x8], [zlb_y1, zlb_y71, zlb_y72, zlb_y74, zlb_y69], 0, []),
  (45, [zlb_x0, zlb_x12, zlb_x13, zlb_x32, zlb_x15, zlb_x21, zlb_x9], zlb_q37, 2, []),
  (45, [zlb_x0, zlb_x12, zlb_x13, zlb_x32, zlb_x15, zlb_x21, zlb_x17], zlb_q37, 2, []),
  (45, [zlb_x0, zlb_x12, zlb_x13, zlb_x32, zlb_x15, zlb_x21, zlb_x18], [zlb_y1, zlb_y71, zlb_y72, zlb_y66, zlb_y77], 0, []),
  (45, [zlb_x0, zlb_x12, zlb_x13, zlb_x32, zlb_x15, zlb_x21, zlb_x10], [zlb_y0, zlb_y1, zlb_y71, zlb_y72, zlb_y66, zlb_y69, zlb_y9], 0, []),
  (45, [zlb_x0, zlb_x12, zlb_x13, zlb_x32, zlb_x15, zlb_x22, zlb_x8], zlb_q38, 2, []),
  (45, [zlb_x0, zlb_x12, zlb_x13, zlb_x32, zlb_x15, zlb_x22, zlb_x9], [zlb_y1, zlb_y70, zlb_y73, zlb_y75, zlb_y68], 0, []),
  (45, [zlb_x0, zlb_x12, zlb_x13, zlb_x32, zlb_x15, zlb_x22, zlb_x17], [zlb_y1, zlb_y70, zlb_y73, zlb_y67, zlb_y76], 0, []),
  (45, [zlb_x0, zlb_x12, zlb_x13, zlb_x32, zlb_x15, zlb_x22, zlb_x18], zlb_q38, 2, []),
  (45, [zlb_x0, zlb_x12, zlb_x13, zlb_x32, zlb_x15, zlb_x22, zlb_x10], [zlb_y0, zlb_y1, zlb_y70, zlb_y73, zlb_y67, zlb_y68, zlb_y9], 0, []),
  (45, [zlb_x0, zlb_x12, zlb_x13, zlb_x32, zlb_x15, zlb_x23, zlb_x8], zlb_q39, 2, []),
  (45, [zlb_x0, zlb_x12, zlb_x13, zlb_x32, zlb_x15, zlb_x23, zlb_x9], [zlb_y1, zlb_y70, zlb_y72, zlb_y75, zlb_y69], 0, []),
  (45, [zlb_x0, zlb_x12, zlb_x13, zlb_x32, zlb_x15, zlb_x23, zlb_x17], zlb_q39, 2, []),
  (45, [zlb_x0, zlb_x12, zlb_x13, zlb_x32, zlb_x15, zlb_x23, zlb_x18], [zlb_y1, zlb_y70, zlb_y72, zlb_y67, zlb_y77], 0, []),
  (45, [zlb_x0, zlb_x12, zlb_x13, zlb_x32, zlb_x15, zlb_x23, zlb_x10], [zlb_y0, zlb_y1, zlb_y70, zlb_y72, zlb_y67, zlb_y69, zlb_y9], 0, []),
  (45, [zlb_x0, zlb_x12, zlb_x13, zlb_x32, zlb_x15, zlb_x24, zlb_x8], zlb_q40, 2, []),
  (45, [zlb_x0, zlb_x12, zlb_x13, zlb_x32, zlb_x15, zlb_x24, zlb_x9], zlb_q40, 2, []),
  (45, [zlb_x0, zlb_x12, zlb_x13, zlb_x32, zlb_x15, zlb_x24, zlb_x17], [zlb_y1, zlb_y70, zlb_y71, zlb_y76, zlb_y69], 0, []),
  (45, [zlb_x0, zlb_x12, zlb_x13, zlb_x32, zlb_x15, zlb_x24, zlb_x18], [zlb_y1, zlb_y70, zlb_y71, zlb_y68, zlb_y77], 0, []),
  (45, [zlb_x0, zlb_x12, zlb_x13, zlb_x32, zlb_x15, zlb_x24, zlb_x10], [zlb_y0, zlb_y1, zlb_y70, zlb_y71, zlb_y68, zlb_y69, zlb_y9], 0, []),
  (45, [zlb_x0, zlb_x12, zlb_x13, zlb_x32, zlb_x15, zlb_x25, zlb_x8], [zlb_y1, zlb_y73, zlb_y74, zlb_y67, zlb_y68], 0, []),
  (45, [zlb_x0, zlb_x12, zlb_x13, zlb_x32, zlb_x15, zlb_x25, zlb_x9], [zlb_y1, zlb_y73, zlb_y66, zlb_y75, zlb_y68], 0, []),
  (45, [zlb_x0, zlb_x12, zlb_x13, zlb_x32, zlb_x15, zlb_x25, zlb_x17], [zlb_y1, zlb_y73, zlb_y66, zlb_y67, zlb_y76], 0, []),
  (45, [zlb_x0, zlb_x12, zlb_x13, zlb_x32, zlb_x15, zlb_x25, zlb_x18], [zlb_y0, zlb_y1, zlb_y73, zlb_y66, zlb_y67, zlb_y68, zlb_y7], 1, []),
  (45, [zlb_x0, zlb_x12, zlb_x13, zlb_x32, zlb_x15, zlb_x25, zlb_x10], [zlb_y0, zlb_y1, zlb_y73, zlb_y66, zlb_y67, zlb_y68, zlb_y9], 0, []),
  (45, [zlb_x0, zlb_x12, zlb_x13, zlb_x32, zlb_x15, zlb_x26, zlb_x8], [zlb_y1, zlb_y72, zlb_y74, zlb_y67, zlb_y69], 0, []),
  (45, [zlb_x0, zlb_x12, zlb_x13, zlb_x32, zlb_x15, zlb_x26, zlb_x9], [zlb_y1, zlb_y72, zlb_y66, zlb_y75, zlb_y69], 0, []),
  (45, [zlb_x0, zlb_x12, zlb_x13, zlb_x32, zlb_x15, zlb_x26, zlb_x17], [zlb_y0, zlb_y1, zlb_y72, zlb_y66, zlb_y67, zlb_y69, zlb_y7], 1, []),
  (45, [zlb_x0, zlb_x12, zlb_x13, zlb_x32, zlb_x15, zlb_x26, zlb_x18], [zlb_y1, zlb_y72, zlb_y66, zlb_y67, zlb_y77], 0, []),
  (45, [zlb_x0, zlb_x12, zlb_x13, zlb_x32, zlb_x15, zlb_x26, zlb_x10], [zlb_y0, zlb_y1, zlb_y72, zlb_y66, zlb_y67, zlb_y69, zlb_y9], 0, []),
  (45, [zlb_x0, zlb_x12, zlb_x13, zlb_x32, zlb_x15, zlb_x27, zlb_x8], [zlb_y1, zlb_y71, zlb_y74, zlb_y68, zlb_y69], 0, []),
  (45, [zlb_x0, zlb_x12, zlb_x13, zlb_x32, zlb_x15, zlb_x27, zlb_x9], [zlb_y0, zlb_y1, zlb_y71, zlb_y66, zlb_y68, zlb_y69, zlb_y7], 1, []),
  (45, [zlb_x0, zlb_x12, zlb_x13, zlb_x32, zlb_x15, zlb_x27, zlb_x17], [zlb_y1, zlb_y71, zlb_y66, zlb_y76, zlb_y69], 0, []),
  (45, [zlb_x0, zlb_x12, zlb_x13, zlb_x32, zlb_x15, zlb_x27, zlb_x18], [zlb_y1, zlb_y71, zlb_y66, zlb_y68, zlb_y77], 0, []),
  (45, [zlb_x0, zlb_x12, zlb_x13, zlb_x32, zlb_x15, zlb_x27, zlb_x10], [zlb_y0, zlb_y1, zlb_y71, zlb_y66, zlb_y68, zlb_y69, zlb_y9], 0, []),
  (45, [zlb_x0, zlb_x12, zlb_x13, zlb_x32, zlb_x15, zlb_x28, zlb_x8], [zlb_y0, zlb_y1, zlb_y70, zlb_y67, zlb_y68, zlb_y69, zlb_y7], 1, []),
  (45, [zlb_x0, zlb_x12, zlb_x13, zlb_x32, zlb_x15, zlb_x28, zlb_x9], [zlb_y1, zlb_y70, zlb_y75, zlb_y68, zlb_y69], 0, []),
  (45, [zlb_x0, zlb_x12, zlb_x13, zlb_x32, zlb_x15, zlb_x28, zlb_x17], [zlb_y1, zlb_y70, zlb_y67, zlb_y76, zlb_y69], 0, []),
  (45, [zlb_x0, zlb_x12, zlb_x13, zlb_x32, zlb_x15, zlb_x28, zlb_x18], [zlb_y1, zlb_y70, zlb_y67, zlb_y68, zlb_y77], 0, []),
  (45, [zlb_x0, zlb_x12, zlb_x13, zlb_x32, zlb_x15, zlb_x28, zlb_x10], [zlb_y0, zlb_y1, zlb_y70, zlb_y67, zlb_y68, zlb_y69, zlb_y9], 0, []),
  (45, [zlb_x0, zlb_x12, zlb_x13, zlb_x32, zlb_x15, zlb_x29, zlb_x8], [zlb_y1, zlb_y74, zlb_y67, zlb_y68, zlb_y69], 0, []),
  (45, [zlb_x0, zlb_x12, zlb_x13, zlb_x32, zlb_x15, zlb_x29, zlb_x9], [zlb_y1, zlb_y66, zlb_y75, zlb_y68, zlb_y69], 0, []),
  (45, [zlb_x0, zlb_x12, zlb_x13, zlb_x32, zlb_x15, zlb_x29, zlb_x17], [zlb_y1, zlb_y66, zlb_y67, zlb_y76, zlb_y69], 0, []),
  (45, [zlb_x0, zlb_x12, zlb_x13, zlb_x32, zlb_x15, zlb_x29, zlb_x18], [zlb_y1, zlb_y66, zlb_y67, zlb_y68, zlb_y77], 0, []),
  (45, [zlb_x0, zlb_x12, zlb_x13, zlb_x32, zlb_x15, zlb_x29, zlb_x10], [zlb_y0, zlb_y1, zlb_y66, zlb_y67, zlb_y68, zlb_y69, zlb_y9], 0, [])]) (sp := [(3, 5), (45, 6)]) (fu := 54) (fa_cons (vUq (fA3 0) (by decide)) (fa_cons (vUq tA26 (by decide)) (fa_cons (vUq tA27 (by decide)) (fa_cons (vUq tA28 (by decide)) (fa_cons (vUq tA29 (by decide)) (fa_cons (vUq tA30 (by decide)) (fa_cons (vUq (fA0 0) (by decide)) (fa_cons (vUq tA35 (by decide)) (fa_cons (vUq tA36 (by decide)) (fa_cons (vUq tA8 (by decide)) (fa_cons (vUq tA37 (by decide)) (fa_cons (vUq tA38 (by decide)) (fa_cons (vUq tA13 (by decide)) (fa_cons (vUq tA14 (by decide)) (fa_cons (vUq tA39 (by decide)) (fa_cons (vUq tA40 (by decide)) (fa_cons (vUq tA41 (by decide)) (fa_cons (vUq tA42 (by decide)) (fa_cons (vUq tA43 (by decide)) (fa_cons (vUq tA45 (by decide)) (fa_cons (vUq tA46 (by decide)) (fa_cons (vUq tA47 (by decide)) (fa_cons (vUq tA48 (by decide)) (fa_cons (vUq tA50 (by decide)) (fa_cons (vUq tA19 (by decide)) (fa_cons (vUq tA0 (by decide)) (fa_cons (vUq tA20 (by decide)) (fa_cons (vUq tA51 (by decide)) (fa_cons (vUq tA52 (by decide)) (fa_cons (vUq tA21 (by decide)) (fa_cons (vUq tA22 (by decide)) (fa_cons (vUq tA53 (by decide)) (fa_cons (vUq tA54 (by decide)) (fa_cons (vUq tA55 (by decide)) (fa_cons (vUq tA56 (by decide)) (fa_cons (vUq tA57 (by decide)) (fa_cons (vUq tA58 (by decide)) (fa_cons (vUq tA59 (by decide)) (fa_cons (vUq tA60 (by decide)) (fa_cons (vUq tA61 (by decide)) (fa_cons (vUq tA62 (by decide)) (fa_cons (vUq tA23 (by decide)) (fa_cons (vUq tA24 (by decide)) (fa_cons (vUq tA63 (by decide)) (fa_cons (vUq tA64 (by decide)) (fa_cons (vUq tA65 (by decide)) (fa_cons (vUq tA66 (by decide)) (fa_cons (vUq tA67 (by decide)) (fa_cons (vUq tA68 (by decide)) (fa_cons (vUq tA69 (by decide)) (fa_cons (vUq tA70 (by decide)) (fa_cons (vUq tA71 (by decide)) (fa_cons (vUq tA72 (by decide)) (fa_cons (vUq tA73 (by decide)) (fa_cons (vUq tA74 (by decide)) (fa_cons (vUq tA75 (by decide)) (fa_cons (vUq tA76 (by decide)) (fa_cons (vUq tA77 (by decide)) (fa_cons (vUq tA78 (by decide)) (fa_cons (vUq tA79 (by decide)) (fa_cons (vUq tA80 (by decide)) (fa_cons (vUq tA81 (by decide)) (fa_cons (vUq tA82 (by decide)) (fa_cons (vUq tA83 (by decide)) (fa_cons (vUq tA84 (by decide)) (fa_cons (vUq tA85 (by decide)) (fa_cons (vUq tA86 (by decide)) (fa_cons (vUq tA87 (by decide)) (fa_cons (vUq tA88 (by decide)) (fa_cons (vUq tA89 (by decide)) (fa_cons (vUq tA90 (by decide)) (fa_cons (vUq tA91 (by decide)) (fa_cons (vUq tA92 (by decide)) (fa_cons (vUq tA93 (by decide)) (fa_cons (vUq tA94 (by decide)) (fa_cons (vUq tA95 (by decide)) (fa_cons (vUq tA96 (by decide)) (fa_cons (vUq tA97 (by decide)) (fa_cons (vUq tA98 (by decide)) (fa_cons (vUq tA99 (by decide)) (fa_cons (vUq tA100 (by decide)) (fa_cons (vUq tA101 (by decide)) (fa_cons (vUq tA102 (by decide)) (fa_cons (vUq tA103 (by decide)) (fa_cons (vUq tA104 (by decide)) (fa_nil)))))))))))))))))))))))))))))))))))))))))))))))))))))))))))))))))))))))))))))))))))))) (by decide +kernel)
/-- X12_readClause -/
def tA161c : aCt := (186, [aR [314]], [zlb_y0, zlb_y65, zlb_y20, zlb_y13, zlb_y1, zlb_y14, zlb_y15], [(none, [(lLo, lHi)], [zlb_y4]), (none, [(lLo, lHi)], ([zlb_y65, zlb_y13, zlb_y21, zlb_y0, zlb_y14, zlb_y15] ++ ([] ++ fkF 1))), (none, [(lLo, lHi)], [zlb_y20, zlb_y13, zlb_y78, zlb_y0, zlb_y14, zlb_y15, zlb_y66, zlb_y67, zlb_y68, zlb_y69]), (none, [(lLo, lHi)], [zlb_y65, zlb_y20, zlb_y18, zlb_y0, zlb_y14, zlb_y15])], [(314, 10, 12), (314, 28, 30), (314, 31, 32), (319, 0, 2), (321, 20, 24), (323, 0, 2)])
set_option maxRecDepth 100000 in
theorem tA161 : vC tS tRA jM 12 tA161c := chkF_ok (D := 11) (hst := jM_st (by decide +kernel)) (T := [(fA0c 0), tA0c, tA25c, tA160c, tA121c]) (N := []) (sp := []) (fu := 59) (fa_cons (vUq (fA0 0) (by decide)) (fa_cons (vUq tA0 (by decide)) (fa_cons (vUq tA25 (by decide)) (fa_cons (vUq tA160 (by decide)) (fa_cons (vUq tA121 (by decide)) (fa_nil)))))) (by decide +kernel)
/-- X12_readClause -/
def tA162c : aCt := (186, [aR [314]], [zlb_y0, zlb_y45, zlb_y21, zlb_y13, zlb_y1, zlb_y14, zlb_y15], [(none, [(lLo, lHi)], [zlb_y4]), (none, [(lLo, lHi)], [zlb_y45, zlb_y13, zlb_y12, zlb_y0, zlb_y14, zlb_y15, zlb_y27, zlb_y28]), (none, [(lLo, lHi)], [zlb_y21, zlb_y13, zlb_y65, zlb_y0, zlb_y14, zlb_y15, zlb_y53, zlb_y54, zlb_y55, zlb_y56]), (none, [(lLo, lHi)], [zlb_y45, zlb_y21, zlb_y18, zlb_y0, zlb_y14, zlb_y15])], [(314, 10, 12), (314, 28, 30), (314, 31, 32), (319, 0, 2), (321, 16, 20), (323, 2, 4)])
set_option maxRecDepth 100000 in
theorem tA162 : vC tS tRA jM 12 tA162c := chkF_ok (D := 11) (hst := jM_st (by decide +kernel)) (T := [(fA0c 0), tA0c, tA127c, tA149c, tA121c]) (N := []) (sp := []) (fu := 59) (fa_cons (vUq (fA0 0) (by decide)) (fa_cons (vUq tA0 (by decide)) (fa_cons (vUq tA127 (by decide)) (fa_cons (vUq tA149 (by decide)) (fa_cons (vUq tA121 (by decide)) (fa_nil)))))) (by decide +kernel)
/-- X12_readClause -/
def tA163c : aCt := (186, [aR [314]], [zlb_y0, zlb_y22, zlb_y12, zlb_y13, zlb_y1, zlb_y14, zlb_y15], [(none, [(lLo, lHi)], [zlb_y4]), (none, [(lLo, lHi)], [zlb_y22, zlb_y13, zlb_y16, zlb_y0, zlb_y14, zlb_y15, zlb_y2, zlb_y3]), (none, [(lLo, lHi)], [zlb_y12, zlb_y13, zlb_y45, zlb_y0, zlb_y14, zlb_y15, zlb_y33, zlb_y34, zlb_y35, zlb_y36]), (none, [(lLo, lHi)], [zlb_y22, zlb_y12, zlb_y18, zlb_y0, zlb_y14, zlb_y15])], [(314, 10, 12), (314, 28, 30), (314, 31, 32), (319, 0, 2), (321, 12, 16), (323, 4, 6)])
set_option maxRecDepth 100000 in
theorem tA163 : vC tS tRA jM 12 tA163c := chkF_ok (D := 11) (hst := jM_st (by decide +kernel)) (T := [(fA0c 0), tA0c, tA134c, tA139c, tA121c]) (N := []) (sp := []) (fu := 59) (fa_cons (vUq (fA0 0) (by decide)) (fa_cons (vUq tA0 (by decide)) (fa_cons (vUq tA134 (by decide)) (fa_cons (vUq tA139 (by decide)) (fa_cons (vUq tA121 (by decide)) (fa_nil)))))) (by decide +kernel)
/-- X12_readClause -/
def tA164c : aCt := (186, [aR [314]], [zlb_y0, zlb_y19, zlb_y16, zlb_y13, zlb_y1, zlb_y14, zlb_y15], [(none, [(lLo, lHi)], [zlb_y4]), (none, [(lLo, lHi)], [zlb_y19, zlb_y13, zlb_y52, zlb_y0, zlb_y14, zlb_y15, zlb_y46, zlb_y47]), (none, [(lLo, lHi)], [zlb_y16, zlb_y13, zlb_y22, zlb_y0, zlb_y14, zlb_y15, zlb_y23, zlb_y24, zlb_y25, zlb_y26]), (none, [(lLo, lHi)], [zlb_y19, zlb_y16, zlb_y18, zlb_y0, zlb_y14, zlb_y15])], [(314, 10, 12), (314, 28, 30), (314, 31, 32), (319, 0, 2), (321, 8, 12), (323, 6, 8)])
set_option maxRecDepth 100000 in
theorem tA164 : vC tS tRA jM 12 tA164c := chkF_ok (D := 11) (hst := jM_st (by decide +kernel)) (T := [(fA0c 0), tA0c, tA143c, tA131c, tA121c]) (N := []) (sp := []) (fu := 59) (fa_cons (vUq (fA0 0) (by decide)) (fa_cons (vUq tA0 (by decide)) (fa_cons (vUq tA143 (by decide)) (fa_cons (vUq tA131 (by decide)) (fa_cons (vUq tA121 (by decide)) (fa_nil)))))) (by decide +kernel)
/-- X12_readClause -/
def tA165c : aCt := (186, [aR [314]], [zlb_y0, zlb_y17, zlb_y52, zlb_y13, zlb_y1, zlb_y14, zlb_y15], [(none, [(lLo, lHi)], [zlb_y4]), (none, [(lLo, lHi)], [zlb_y52, zlb_y13, zlb_y19, zlb_y0, zlb_y14, zlb_y15, zlb_y29, zlb_y30, zlb_y31, zlb_y32]), (none, [(lLo, lHi)], [zlb_y17, zlb_y52, zlb_y18, zlb_y0, zlb_y14, zlb_y15])], [(314, 10, 12), (314, 28, 29), (314, 31, 32), (319, 0, 2), (321, 4, 8)])
set_option maxRecDepth 100000 in
theorem tA165 : vC tS tRA jM 12 tA165c := chkF_ok (D := 11) (hst := jM_st (by decide +kernel)) (T := [(fA0c 0), tA0c, tA125c, tA121c]) (N := []) (sp := []) (fu := 57) (fa_cons (vUq (fA0 0) (by decide)) (fa_cons (vUq tA0 (by decide)) (fa_cons (vUq tA125 (by decide)) (fa_cons (vUq tA121 (by decide)) (fa_nil))))) (by decide +kernel)
/-- X12_readClause -/
def tA166c : aCt := (186, [aR [314]], [zlb_y0, zlb_y65, zlb_y20, zlb_y18, zlb_y1, zlb_y14, zlb_y15], [(none, [(lLo, lHi)], [zlb_y4]), (none, [(lLo, lHi)], ([zlb_y65, zlb_y18, zlb_y21, zlb_y0, zlb_y14, zlb_y15] ++ ([] ++ fkF 1))), (none, [(lLo, lHi)], [zlb_y20, zlb_y18, zlb_y78, zlb_y0, zlb_y14, zlb_y15, zlb_y66, zlb_y67, zlb_y68, zlb_y69])], [(314, 10, 12), (314, 28, 30), (321, 20, 24), (323, 0, 2)])
set_option maxRecDepth 100000 in
theorem tA166 : vC tS tRA jM 12 tA166c := chkF_ok (D := 11) (hst := jM_st (by decide +kernel)) (T := [(fA0c 0), tA0c, tA25c, tA160c]) (N := []) (sp := []) (fu := 59) (fa_cons (vUq (fA0 0) (by decide)) (fa_cons (vUq tA0 (by decide)) (fa_cons (vUq tA25 (by decide)) (fa_cons (vUq tA160 (by decide)) (fa_nil))))) (by decide +kernel)
/-- X12_readClause -/
def tA167c : aCt := (186, [aR [314]], [zlb_y0, zlb_y45, zlb_y21, zlb_y18, zlb_y1, zlb_y14, zlb_y15], [(none, [(lLo, lHi)], [zlb_y4]), (none, [(lLo, lHi)], [zlb_y45, zlb_y18, zlb_y12, zlb_y0, zlb_y14, zlb_y15, zlb_y27, zlb_y28]), (none, [(lLo, lHi)], [zlb_y21, zlb_y18, zlb_y65, zlb_y0, zlb_y14, zlb_y15, zlb_y53, zlb_y54, zlb_y55, zlb_y56])], [(314, 10, 12), (314, 28, 30), (321, 16, 20), (323, 2, 4)])
set_option maxRecDepth 100000 in
theorem tA167 : vC tS tRA jM 12 tA167c := chkF_ok (D := 11) (hst := jM_st (by decide +kernel)) (T := [(fA0c 0), tA0c, tA127c, tA149c]) (N := []) (sp := []) (fu := 59) (fa_cons (vUq (fA0 0) (by decide)) (fa_cons (vUq tA0 (by decide)) (fa_cons (vUq tA127 (by decide)) (fa_cons (vUq tA149 (by decide)) (fa_nil))))) (by decide +kernel)
/-- X12_readClause -/
def tA168c : aCt := (186, [aR [314]], [zlb_y0, zlb_y22, zlb_y12, zlb_y18, zlb_y1, zlb_y14, zlb_y15], [(none, [(lLo, lHi)], [zlb_y4]), (none, [(lLo, lHi)], [zlb_y22, zlb_y18, zlb_y16, zlb_y0, zlb_y14, zlb_y15, zlb_y2, zlb_y3]), (none, [(lLo, lHi)], [zlb_y12, zlb_y18, zlb_y45, zlb_y0, zlb_y14, zlb_y15, zlb_y33, zlb_y34, zlb_y35, zlb_y36])], [(314, 10, 12), (314, 28, 30), (321, 12, 16), (323, 4, 6)])
set_option maxRecDepth 100000 in
theorem tA168 : vC tS tRA jM 12 tA168c := chkF_ok (D := 11) (hst := jM_st (by decide +kernel)) (T := [(fA0c 0), tA0c, tA134c, tA139c]) (N := []) (sp := []) (fu := 59) (fa_cons (vUq (fA0 0) (by decide)) (fa_cons (vUq tA0 (by decide)) (fa_cons (vUq tA134 (by decide)) (fa_cons (vUq tA139 (by decide)) (fa_nil))))) (by decide +kernel)
/-- X12_readClause -/
def tA169c : aCt := (186, [aR [314]], [zlb_y0, zlb_y19, zlb_y16, zlb_y18, zlb_y1, zlb_y14, zlb_y15], [(none, [(lLo, lHi)], [zlb_y4]), (none, [(lLo, lHi)], [zlb_y19, zlb_y18, zlb_y52, zlb_y0, zlb_y14, zlb_y15, zlb_y46, zlb_y47]), (none, [(lLo, lHi)], [zlb_y16, zlb_y18, zlb_y22, zlb_y0, zlb_y14, zlb_y15, zlb_y23, zlb_y24, zlb_y25, zlb_y26])], [(314, 10, 12), (314, 28, 30), (321, 8, 12), (323, 6, 8)])
set_option maxRecDepth 100000 in
theorem tA169 : vC tS tRA jM 12 tA169c := chkF_ok (D := 11) (hst := jM_st (by decide +kernel)) (T := [(fA0c 0), tA0c, tA143c, tA131c]) (N := []) (sp := []) (fu := 59) (fa_cons (vUq (fA0 0) (by decide)) (fa_cons (vUq tA0 (by decide)) (fa_cons (vUq tA143 (by decide)) (fa_cons (vUq tA131 (by decide)) (fa_nil))))) (by decide +kernel)
/-- X12_readClause -/
def tA170c : aCt := (186, [aR [314]], [zlb_y0, zlb_y17, zlb_y52, zlb_y18, zlb_y1, zlb_y14, zlb_y15], [(none, [(lLo, lHi)], [zlb_y4]), (none, [(lLo, lHi)], [zlb_y52, zlb_y18, zlb_y19, zlb_y0, zlb_y14, zlb_y15, zlb_y29, zlb_y30, zlb_y31, zlb_y32])], [(314, 10, 12), (314, 28, 29), (321, 4, 8)])
set_option maxRecDepth 100000 in
theorem tA170 : vC tS tRA jM 12 tA170c := chkF_ok (D := 11) (hst := jM_st (by decide +kernel)) (T := [(fA0c 0), tA0c, tA125c]) (N := []) (sp := []) (fu := 57) (fa_cons (vUq (fA0 0) (by decide)) (fa_cons (vUq tA0 (by decide)) (fa_cons (vUq tA125 (by decide)) (fa_nil)))) (by decide +kernel)
/-- X12_readItems -/
def tA171c : aCt := (185, [aR [314], aI 101 101, aR [321], aI 24 24, aR [1003]], zlb_q0, [(none, zlb_l5, [zlb_y0, zlb_y79, zlb_y80, zlb_y81, zlb_y82]), (none, zlb_l5, [zlb_y4])], [(314, 10, 12), (321, 24, 28)])
set_option maxRecDepth 100000 in
theorem tA171 : vC tS tRA jM 11 tA171c := chkF_ok (D := 10) (hst := jM_st (by decide +kernel)) (T := [(fA3c 0), tA26c, tA27c, tA28c, tA29c, tA30c, (fA0c 0), tA35c, tA36c, tA8c, tA37c, tA38c, tA13c, tA14c, tA39c, tA40c, tA41c, tA42c, tA43c, tA45c, tA46c, tA47c, tA48c, tA50c, tA19c, tA0c, tA20c, tA51c, tA52c, tA21c, tA22c, tA53c, tA54c, tA55c, tA56c, tA57c, tA58c, tA59c, tA60c, tA61c, tA62c, tA23c, tA24c, tA63c, tA64c, tA65c, tA66c, tA67c, tA68c, tA69c, tA70c, tA71c, tA72c, tA73c, tA74c, tA75c, tA76c, tA77c, tA78c, tA79c, tA80c, tA81c, tA82c, tA83c, tA84c, tA85c, tA86c, tA87c, tA88c, tA89c, tA90c, tA91c, tA92c, tA93c, tA94c, tA95c, tA96c, tA97c, tA98c, tA99c, tA100c, tA101c, tA102c, tA103c, tA104c]) (N := [(3, [zlb_x0, zlb_x12, zlb_x13, zlb_x33, zlb_x15, zlb_x5], zlb_q0, 9, []),
  (3, [zlb_x0, zlb_x12, zlb_x13, zlb_x33, zlb_x15, zlb_x6], [zlb_y0, zlb_y1, zlb_y83], 8, []),
  (3, [zlb_x0, zlb_x12, zlb_x13, zlb_x33, zlb_x15, zlb_x7], [zlb_y0, zlb_y1, zlb_y83, zlb_y84], 7, []),
  (3, [zlb_x0, zlb_x12, zlb_x13, zlb_x33, zlb_x15, zlb_x11], [zlb_y0, zlb_y1, zlb_y83, zlb_y84, zlb_y85], 6, []),
  (3, [zlb_x0, zlb_x12, zlb_x13, zlb_x33, zlb_x15, zlb_x16], zlb_q41, 5, []),
  (45, [zlb_x0, zlb_x12, zlb_x13, zlb_x33, zlb_x15, zlb_x5, zlb_x8], zlb_q42, 4, []),
  (45, [zlb_x0, zlb_x12, zlb_x13, zlb_x33, zlb_x15, zlb_x5, zlb_x9], zlb_q42, 4, []),
  (45, [zlb_x0, zlb_x12, zlb_x13, zlb_x33, zlb_x15, zlb_x5, zlb_x17], zlb_q42, 4, []),
  (45, [zlb_x0, zlb_x12, zlb_x13, zlb_x33, zlb_x15, zlb_x5, zlb_x18], zlb_q42, 4, []),
  (45, [zlb_x0, zlb_x12, zlb_x13, zlb_x33, zlb_x15, zlb_x5, zlb_x10], zlb_q41, 0, []),
  (45, [zlb_x0, zlb_x12, zlb_x13, zlb_x33, zlb_x15, zlb_x6, zlb_x8], [zlb_y1, zlb_y84, zlb_y85, zlb_y86, zlb_y87], 0, []),
  (45, [zlb_x0, zlb_x12, zlb_x13, zlb_x33, zlb_x15, zlb_x6, zlb_x9], zlb_q43, 3, []),
  (45, [zlb_x0, zlb_x12, zlb_x13, zlb_x33, zlb_x15, zlb_x6, zlb_x17], zlb_q43, 3, []),
  (45, [zlb_x0, zlb_x12, zlb_x13, zlb_x33, zlb_x15, zlb_x6, zlb_x18], zlb_q43, 3, []),
  (45, [zlb_x0, zlb_x12, zlb_x13, zlb_x33, zlb_x15, zlb_x6, zlb_x10], [zlb_y0, zlb_y1, zlb_y84, zlb_y85, zlb_y86, zlb_y79, zlb_y9], 0, []),
  (45, [zlb_x0, zlb_x12, zlb_x13, zlb_x33, zlb_x15, zlb_x7, zlb_x8], zlb_q44, 3, []),
  (45, [zlb_x0, zlb_x12, zlb_x13, zlb_x33, zlb_x15, zlb_x7, zlb_x9], [zlb_y1, zlb_y83, zlb_y85, zlb_y86, zlb_y88], 0, []),
  (45, [zlb_x0, zlb_x12, zlb_x13, zlb_x33, zlb_x15, zlb_x7, zlb_x17], zlb_q44, 3, []),
  (45, [zlb_x0, zlb_x12, zlb_x13, zlb_x33, zlb_x15, zlb_x7, zlb_x18], zlb_q44, 3, []),
  (45, [zlb_x0, zlb_x12, zlb_x13, zlb_x33, zlb_x15, zlb_x7, zlb_x10], [zlb_y0, zlb_y1, zlb_y83, zlb_y85, zlb_y86, zlb_y80, zlb_y9], 0, []),
  (45, [zlb_x0, zlb_x12, zlb_x13, zlb_x33, zlb_x15, zlb_x16, zlb_x8], zlb_q45, 3, []),
  (45, [zlb_x0, zlb_x12, zlb_x13, zlb_x33, zlb_x15, zlb_x16, zlb_x9], zlb_q45, 3, []),
  (45, [zlb_x0, zlb_x12, zlb_x13, zlb_x33, zlb_x15, zlb_x16, zlb_x17], [zlb_y1, zlb_y83, zlb_y84, zlb_y86, zlb_y89], 0, []),
  (45, [zlb_x0, zlb_x12, zlb_x13, zlb_x33, zlb_x15, zlb_x16, zlb_x18], zlb_q45, 3, []),
  (45, [zlb_x0, zlb_x12, zlb_x13, zlb_x33, zlb_x15, zlb_x16, zlb_x10], [zlb_y0, zlb_y1, zlb_y83, zlb_y84, zlb_y86, zlb_y81, zlb_y9], 0, []),
  (45, [zlb_x0, zlb_x12, zlb_x13, zlb_x33, zlb_x15, zlb_x19, zlb_x8], zlb_q46, 3, []),
  (45, [zlb_x0, zlb_x12, zlb_x13, zlb_x33, zlb_x15, zlb_x19, zlb_x9], zlb_q46, 3, []),
  (45, [zlb_x0, zlb_x12, zlb_x13, zlb_x33, zlb_x15, zlb_x19, zlb_x17], zlb_q46, 3, []),
  (45, [zlb_x0, zlb_x12, zlb_x13, zlb_x33, zlb_x15, zlb_x19, zlb_x18], [zlb_y1, zlb_y83, zlb_y84, zlb_y85, zlb_y90], 0, []),
  (45, [zlb_x0, zlb_x12, zlb_x13, zlb_x33, zlb_x15, zlb_x19, zlb_x10], [zlb_y0, zlb_y1, zlb_y83, zlb_y84, zlb_y85, zlb_y82, zlb_y9], 0, []),
  (45, [zlb_x0, zlb_x12, zlb_x13, zlb_x33, zlb_x15, zlb_x11, zlb_x8], [zlb_y1, zlb_y85, zlb_y86, zlb_y87, zlb_y80], 0, []),
  (45, [zlb_x0, zlb_x12, zlb_x13, zlb_x33, zlb_x15, zlb_x11, zlb_x9], [zlb_y1, zlb_y85, zlb_y86, zlb_y79, zlb_y88], 0, []),
  (45, [zlb_x0, zlb_x12, zlb_x13, zlb_x33, zlb_x15, zlb_x11, zlb_x17], zlb_q47, 2, []),
  (45, [zlb_x0, zlb_x12, zlb_x13, zlb_x33, zlb_x15, zlb_x11, zlb_x18], zlb_q47, 2, []),
  (45, [zlb_x0, zlb_x12, zlb_x13, zlb_x33, zlb_x15, zlb_x11, zlb_x10], [zlb_y0, zlb_y1, zlb_y85, zlb_y86, zlb_y79, zlb_y80, zlb_y9], 0, []),
  (45, [zlb_x0, zlb_x12, zlb_x13, zlb_x33, zlb_x15, zlb_x20, zlb_x8], [zlb_y1, zlb_y84, zlb_y86, zlb_y87, zlb_y81], 0, []),
  (45, [zlb_x0, zlb_x12, zlb_x13, zlb_x33, zlb_x15, zlb_x20, zlb_x9], zlb_q48, 2, []),
  (45, [zlb_x0, zlb_x12, zlb_x13, zlb_x33, zlb_x15, zlb_x20, zlb_x17], [zlb_y1, zlb_y84, zlb_y86, zlb_y79, zlb_y89], 0, []),
  (45, [zlb_x0, zlb_x12, zlb_x13, zlb_x33, zlb_x15, zlb_x20, zlb_x18], zlb_q48, 2, []),
  (45, [zlb_x0, zlb_x12, zlb_x13, zlb_x33, zlb_x15, zlb_x20, zlb_x10], [zlb_y0, zlb_y1, zlb_y84, zlb_y86, zlb_y79, zlb_y81, zlb_y9], 0, []),
  (45, [zlb_x0, zlb_x12, zlb_x13, zlb_x33, zlb_x15, zlb_x21, zlb_x8], [zlb_y1, zlb_y84, zlb_y85, zlb_y87, zlb_y82], 0, []),
  (45, [zlb_x0, zlb_x12, zlb_x13, zlb_x33, zlb_x15, zlb_x21, zlb_x9], zlb_q49, 2, []),
  (45, [zlb_x0, zlb_x12, zlb_x13, zlb_x33, zlb_x15, zlb_x21, zlb_x17], zlb_q49, 2, []),
  (45, [zlb_x0, zlb_x12, zlb_x13, zlb_x33, zlb_x15, zlb_x21, zlb_x18], [zlb_y1, zlb_y84, zlb_y85, zlb_y79, zlb_y90], 0, []),
  (45, [zlb_x0, zlb_x12, zlb_x13, zlb_x33, zlb_x15, zlb_x21, zlb_x10], [zlb_y0, zlb_y1, zlb_y84, zlb_y85, zlb_y79, zlb_y82, zlb_y9], 0, []),
  (45, [zlb_x0, zlb_x12, zlb_x13, zlb_x33, zlb_x15, zlb_x22, zlb_x8], zlb_q50, 2, []),
  (45, [zlb_x0, zlb_x12, zlb_x13, zlb_x33, zlb_x15, zlb_x22, zlb_x9], [zlb_y1, zlb_y83, zlb_y86, zlb_y88, zlb_y81], 0, []),
  (45, [zlb_x0, zlb_x12, zlb_x13, zlb_x33, zlb_x15, zlb_x22, zlb_x17], [zlb_y1, zlb_y83, zlb_y86, zlb_y80, zlb_y89], 0, []),
  (45, [zlb_x0, zlb_x12, zlb_x13, zlb_x33, zlb_x15, zlb_x22, zlb_x18], zlb_q50, 2, []),
  (45, [zlb_x0, zlb_x12, zlb_x13, zlb_x33, zlb_x15, zlb_x22, zlb_x10], [zlb_y0, zlb_y1, zlb_y83, zlb_y86, zlb_y80, zlb_y81, zlb_y9], 0, []),
  (45, [zlb_x0, zlb_x12, zlb_x13, zlb_x33, zlb_x15, zlb_x23, zlb_x8], zlb_q51, 2, []),
  (45, [zlb_x0, zlb_x12, zlb_x13, zlb_x33, zlb_x15, zlb_x23, zlb_x9], [zlb_y1, zlb_y83, zlb_y85, zlb_y88, zlb_y82], 0, []),
  (45, [zlb_x0, zlb_x12, zlb_x13, zlb_x33, zlb_x15, zlb_x23, zlb_x17], zlb_q51, 2, []),
  (45, [zlb_x0, zlb_x12, zlb_x13, zlb_x33, zlb_x15, zlb_x23, zlb_x18], [zlb_y1, zlb_y83, zlb_y85, zlb_y80, zlb_y90], 0, []),
  (45, [zlb_x0, zlb_x12, zlb_x13, zlb_x33, zlb_x15, zlb_x23, zlb_x10], [zlb_y0, zlb_y1, zlb_y83, zlb_y85, zlb_y80, zlb_y82, zlb_y9], 0, []),
  (45, [zlb_x0, zlb_x12, zlb_x13, zlb_x33, zlb_x15, zlb_x24, zlb_x8], zlb_q52, 2, []),
  (45, [zlb_x0, zlb_x12, zlb_x13, zlb_x33, zlb_x15, zlb_x24, zlb_x9], zlb_q52, 2, []),
  (45, [zlb_x0, zlb_x12, zlb_x13, zlb_x33, zlb_x15, zlb_x24, zlb_x17], [zlb_y1, zlb_y83, zlb_y84, zlb_y89, zlb_y82], 0, []),
  (45, [zlb_x0, zlb_x12, zlb_x13, zlb_x33, zlb_x15, zlb_x24, zlb_x18], [zlb_y1, zlb_y83, zlb_y84, zlb_y81, zlb_y90], 0, []),
  (45, [zlb_x0, zlb_x12, zlb_x13, zlb_x33, zlb_x15, zlb_x24, zlb_x10], [zlb_y0, zlb_y1, zlb_y83, zlb_y84, zlb_y81, zlb_y82, zlb_y9], 0, []),
  (45, [zlb_x0, zlb_x12, zlb_x13, zlb_x33, zlb_x15, zlb_x25, zlb_x8], [zlb_y1, zlb_y86, zlb_y87, zlb_y80, zlb_y81], 0, []),
  (45, [zlb_x0, zlb_x12, zlb_x13, zlb_x33, zlb_x15, zlb_x25, zlb_x9], [zlb_y1, zlb_y86, zlb_y79, zlb_y88, zlb_y81], 0, []),
  (45, [zlb_x0, zlb_x12, zlb_x13, zlb_x33, zlb_x15, zlb_x25, zlb_x17], [zlb_y1, zlb_y86, zlb_y79, zlb_y80, zlb_y89], 0, []),
  (45, [zlb_x0, zlb_x12, zlb_x13, zlb_x33, zlb_x15, zlb_x25, zlb_x18], [zlb_y0, zlb_y1, zlb_y86, zlb_y79, zlb_y80, zlb_y81, zlb_y7], 1, []),
  (45, [zlb_x0, zlb_x12, zlb_x13, zlb_x33, zlb_x15, zlb_x25, zlb_x10], [zlb_y0, zlb_y1, zlb_y86, zlb_y79, zlb_y80, zlb_y81, zlb_y9], 0, []),
  (45, [zlb_x0, zlb_x12, zlb_x13, zlb_x33, zlb_x15, zlb_x26, zlb_x8], [zlb_y1, zlb_y85, zlb_y87, zlb_y80, zlb_y82], 0, []),
  (45, [zlb_x0, zlb_x12, zlb_x13, zlb_x33, zlb_x15, zlb_x26, zlb_x9], [zlb_y1, zlb_y85, zlb_y79, zlb_y88, zlb_y82], 0, []),
  (45, [zlb_x0, zlb_x12, zlb_x13, zlb_x33, zlb_x15, zlb_x26, zlb_x17], [zlb_y0, zlb_y1, zlb_y85, zlb_y79, zlb_y80, zlb_y82, zlb_y7], 1, []),
  (45, [zlb_x0, zlb_x12, zlb_x13, zlb_x33, zlb_x15, zlb_x26, zlb_x18], [zlb_y1, zlb_y85, zlb_y79, zlb_y80, zlb_y90], 0, []),
  (45, [zlb_x0, zlb_x12, zlb_x13, zlb_x33, zlb_x15, zlb_x26, zlb_x10], [zlb_y0, zlb_y1, zlb_y85, zlb_y79, zlb_y80, zlb_y82, zlb_y9], 0, []),
  (45, [zlb_x0, zlb_x12, zlb_x13, zlb_x33, zlb_x15, zlb_x27, zlb_x8], [zlb_y1, zlb_y84, zlb_y87, zlb_y81, zlb_y82], 0, []),
  (45, [zlb_x0, zlb_x12, zlb_x13, zlb_x33, zlb_x15, zlb_x27, zlb_x9], [zlb_y0, zlb_y1, zlb_y84, zlb_y79, zlb_y81, zlb_y82, zlb_y7], 1, []),
  (45, [zlb_x0, zlb_x12, zlb_x13, zlb_x33, zlb_x15, zlb_x27, zlb_x17], [zlb_y1, zlb_y84, zlb_y79, zlb_y89, zlb_y82], 0, []),
  (45, [zlb_x0, zlb_x12, zlb_x13, zlb_x33, zlb_x15, zlb_x27, zlb_x18], [zlb_y1, zlb_y84, zlb_y79, zlb_y81, zlb_y90], 0, []),
  (45, [zlb_x0, zlb_x12, zlb_x13, zlb_x33, zlb_x15, zlb_x27, zlb_x10], [zlb_y0, zlb_y1, zlb_y84, zlb_y79, zlb_y81, zlb_y82, zlb_y9], 0, []),
  (45, [zlb_x0, zlb_x12, zlb_x13, zlb_x33, zlb_x15, zlb_x28, zlb_x8], [zlb_y0, zlb_y1, zlb_y83, zlb_y80, zlb_y81, zlb_y82, zlb_y7], 1, []),
  (45, [zlb_x0, zlb_x12, zlb_x13, zlb_x33, zlb_x15, zlb_x28, zlb_x9], [zlb_y1, zlb_y83, zlb_y88, zlb_y81, zlb_y82], 0, []),
  (45, [zlb_x0, zlb_x12, zlb_x13, zlb_x33, zlb_x15, zlb_x28, zlb_x17], [zlb_y1, zlb_y83, zlb_y80, zlb_y89, zlb_y82], 0, []),
  (45, [zlb_x0, zlb_x12, zlb_x13, zlb_x33, zlb_x15, zlb_x28, zlb_x18], [zlb_y1, zlb_y83, zlb_y80, zlb_y81, zlb_y90], 0, []),
  (45, [zlb_x0, zlb_x12, zlb_x13, zlb_x33, zlb_x15, zlb_x28, zlb_x10], [zlb_y0, zlb_y1, zlb_y83, zlb_y80, zlb_y81, zlb_y82, zlb_y9], 0, []),
  (45, [zlb_x0, zlb_x12, zlb_x13, zlb_x33, zlb_x15, zlb_x29, zlb_x8], [zlb_y1, zlb_y87, zlb_y80, zlb_y81, zlb_y82], 0, []),
  (45, [zlb_x0, zlb_x12, zlb_x13, zlb_x33, zlb_x15, zlb_x29, zlb_x9], [zlb_y1, zlb_y79, zlb_y88, zlb_y81, zlb_y82], 0, []),
  (45, [zlb_x0, zlb_x12, zlb_x13, zlb_x33, zlb_x15, zlb_x29, zlb_x17], [zlb_y1, zlb_y79, zlb_y80, zlb_y89, zlb_y82], 0, []),
  (45, [zlb_x0, zlb_x12, zlb_x13, zlb_x33, zlb_x15, zlb_x29, zlb_x18], [zlb_y1, zlb_y79, zlb_y80, zlb_y81, zlb_y90], 0, []),
  (45, [zlb_x0, zlb_x12, zlb_x13, zlb_x33, zlb_x15, zlb_x29, zlb_x10], [zlb_y0, zlb_y1, zlb_y79, zlb_y80, zlb_y81, zlb_y82, zlb_y9], 0, [])]) (sp := [(3, 5), (45, 6)]) (fu := 54) (fa_cons (vUq (fA3 0) (by decide)) (fa_cons (vUq tA26 (by decide)) (fa_cons (vUq tA27 (by decide)) (fa_cons (vUq tA28 (by decide)) (fa_cons (vUq tA29 (by decide)) (fa_cons (vUq tA30 (by decide)) (fa_cons (vUq (fA0 0) (by decide)) (fa_cons (vUq tA35 (by decide)) (fa_cons (vUq tA36 (by decide)) (fa_cons (vUq tA8 (by decide)) (fa_cons (vUq tA37 (by decide)) (fa_cons (vUq tA38 (by decide)) (fa_cons (vUq tA13 (by decide)) (fa_cons (vUq tA14 (by decide)) (fa_cons (vUq tA39 (by decide)) (fa_cons (vUq tA40 (by decide)) (fa_cons (vUq tA41 (by decide)) (fa_cons (vUq tA42 (by decide)) (fa_cons (vUq tA43 (by decide)) (fa_cons (vUq tA45 (by decide)) (fa_cons (vUq tA46 (by decide)) (fa_cons (vUq tA47 (by decide)) (fa_cons (vUq tA48 (by decide)) (fa_cons (vUq tA50 (by decide)) (fa_cons (vUq tA19 (by decide)) (fa_cons (vUq tA0 (by decide)) (fa_cons (vUq tA20 (by decide)) (fa_cons (vUq tA51 (by decide)) (fa_cons (vUq tA52 (by decide)) (fa_cons (vUq tA21 (by decide)) (fa_cons (vUq tA22 (by decide)) (fa_cons (vUq tA53 (by decide)) (fa_cons (vUq tA54 (by decide)) (fa_cons (vUq tA55 (by decide)) (fa_cons (vUq tA56 (by decide)) (fa_cons (vUq tA57 (by decide)) (fa_cons (vUq tA58 (by decide)) (fa_cons (vUq tA59 (by decide)) (fa_cons (vUq tA60 (by decide)) (fa_cons (vUq tA61 (by decide)) (fa_cons (vUq tA62 (by decide)) (fa_cons (vUq tA23 (by decide)) (fa_cons (vUq tA24 (by decide)) (fa_cons (vUq tA63 (by decide)) (fa_cons (vUq tA64 (by decide)) (fa_cons (vUq tA65 (by decide)) (fa_cons (vUq tA66 (by decide)) (fa_cons (vUq tA67 (by decide)) (fa_cons (vUq tA68 (by decide)) (fa_cons (vUq tA69 (by decide)) (fa_cons (vUq tA70 (by decide)) (fa_cons (vUq tA71 (by decide)) (fa_cons (vUq tA72 (by decide)) (fa_cons (vUq tA73 (by decide)) (fa_cons (vUq tA74 (by decide)) (fa_cons (vUq tA75 (by decide)) (fa_cons (vUq tA76 (by decide)) (fa_cons (vUq tA77 (by decide)) (fa_cons (vUq tA78 (by decide)) (fa_cons (vUq tA79 (by decide)) (fa_cons (vUq tA80 (by decide)) (fa_cons (vUq tA81 (by decide)) (fa_cons (vUq tA82 (by decide)) (fa_cons (vUq tA83 (by decide)) (fa_cons (vUq tA84 (by decide)) (fa_cons (vUq tA85 (by decide)) (fa_cons (vUq tA86 (by decide)) (fa_cons (vUq tA87 (by decide)) (fa_cons (vUq tA88 (by decide)) (fa_cons (vUq tA89 (by decide)) (fa_cons (vUq tA90 (by decide)) (fa_cons (vUq tA91 (by decide)) (fa_cons (vUq tA92 (by decide)) (fa_cons (vUq tA93 (by decide)) (fa_cons (vUq tA94 (by decide)) (fa_cons (vUq tA95 (by decide)) (fa_cons (vUq tA96 (by decide)) (fa_cons (vUq tA97 (by decide)) (fa_cons (vUq tA98 (by decide)) (fa_cons (vUq tA99 (by decide)) (fa_cons (vUq tA100 (by decide)) (fa_cons (vUq tA101 (by decide)) (fa_cons (vUq tA102 (by decide)) (fa_cons (vUq tA103 (by decide)) (fa_cons (vUq tA104 (by decide)) (fa_nil)))))))))))))))))))))))))))))))))))))))))))))))))))))))))))))))))))))))))))))))))))))) (by decide +kernel)
/-- X12_readClause -/
def tA172c : aCt := (186, [aR [314]], [zlb_y0, zlb_y78, zlb_y20, zlb_y13, zlb_y1, zlb_y14, zlb_y15], [(none, [(lLo, lHi)], [zlb_y4]), (none, [(lLo, lHi)], ([zlb_y78, zlb_y13, zlb_y21, zlb_y0, zlb_y14, zlb_y15] ++ ([] ++ fkF 1))), (none, [(lLo, lHi)], [zlb_y20, zlb_y13, zlb_y91, zlb_y0, zlb_y14, zlb_y15, zlb_y79, zlb_y80, zlb_y81, zlb_y82]), (none, [(lLo, lHi)], [zlb_y78, zlb_y20, zlb_y18, zlb_y0, zlb_y14, zlb_y15])], [(314, 10, 12), (314, 28, 30), (314, 31, 32), (319, 0, 2), (321, 24, 28), (323, 0, 2)])
set_option maxRecDepth 100000 in
theorem tA172 : vC tS tRA jM 12 tA172c := chkF_ok (D := 11) (hst := jM_st (by decide +kernel)) (T := [(fA0c 0), tA0c, tA25c, tA171c, tA121c]) (N := []) (sp := []) (fu := 59) (fa_cons (vUq (fA0 0) (by decide)) (fa_cons (vUq tA0 (by decide)) (fa_cons (vUq tA25 (by decide)) (fa_cons (vUq tA171 (by decide)) (fa_cons (vUq tA121 (by decide)) (fa_nil)))))) (by decide +kernel)
/-- X12_readClause -/
def tA173c : aCt := (186, [aR [314]], [zlb_y0, zlb_y65, zlb_y21, zlb_y13, zlb_y1, zlb_y14, zlb_y15], [(none, [(lLo, lHi)], [zlb_y4]), (none, [(lLo, lHi)], [zlb_y65, zlb_y13, zlb_y12, zlb_y0, zlb_y14, zlb_y15, zlb_y27, zlb_y28]), (none, [(lLo, lHi)], [zlb_y21, zlb_y13, zlb_y78, zlb_y0, zlb_y14, zlb_y15, zlb_y66, zlb_y67, zlb_y68, zlb_y69]), (none, [(lLo, lHi)], [zlb_y65, zlb_y21, zlb_y18, zlb_y0, zlb_y14, zlb_y15])], [(314, 10, 12), (314, 28, 30), (314, 31, 32), (319, 0, 2), (321, 20, 24), (323, 2, 4)])
set_option maxRecDepth 100000 in
theorem tA173 : vC tS tRA jM 12 tA173c := chkF_ok (D := 11) (hst := jM_st (by decide +kernel)) (T := [(fA0c 0), tA0c, tA127c, tA160c, tA121c]) (N := []) (sp := []) (fu := 59) (fa_cons (vUq (fA0 0) (by decide)) (fa_cons (vUq tA0 (by decide)) (fa_cons (vUq tA127 (by decide)) (fa_cons (vUq tA160 (by decide)) (fa_cons (vUq tA121 (by decide)) (fa_nil)))))) (by decide +kernel)
/-- X12_readClause -/
def tA174c : aCt := (186, [aR [314]], [zlb_y0, zlb_y45, zlb_y12, zlb_y13, zlb_y1, zlb_y14, zlb_y15], [(none, [(lLo, lHi)], [zlb_y4]), (none, [(lLo, lHi)], [zlb_y45, zlb_y13, zlb_y16, zlb_y0, zlb_y14, zlb_y15, zlb_y2, zlb_y3]), (none, [(lLo, lHi)], [zlb_y12, zlb_y13, zlb_y65, zlb_y0, zlb_y14, zlb_y15, zlb_y53, zlb_y54, zlb_y55, zlb_y56]), (none, [(lLo, lHi)], [zlb_y45, zlb_y12, zlb_y18, zlb_y0, zlb_y14, zlb_y15])], [(314, 10, 12), (314, 28, 30), (314, 31, 32), (319, 0, 2), (321, 16, 20), (323, 4, 6)])
set_option maxRecDepth 100000 in
theorem tA174 : vC tS tRA jM 12 tA174c := chkF_ok (D := 11) (hst := jM_st (by decide +kernel)) (T := [(fA0c 0), tA0c, tA134c, tA149c, tA121c]) (N := []) (sp := []) (fu := 59) (fa_cons (vUq (fA0 0) (by decide)) (fa_cons (vUq tA0 (by decide)) (fa_cons (vUq tA134 (by decide)) (fa_cons (vUq tA149 (by decide)) (fa_cons (vUq tA121 (by decide)) (fa_nil)))))) (by decide +kernel)
/-- X12_readClause -/
def tA175c : aCt := (186, [aR [314]], [zlb_y0, zlb_y22, zlb_y16, zlb_y13, zlb_y1, zlb_y14, zlb_y15], [(none, [(lLo, lHi)], [zlb_y4]), (none, [(lLo, lHi)], [zlb_y22, zlb_y13, zlb_y52, zlb_y0, zlb_y14, zlb_y15, zlb_y46, zlb_y47]), (none, [(lLo, lHi)], [zlb_y16, zlb_y13, zlb_y45, zlb_y0, zlb_y14, zlb_y15, zlb_y33, zlb_y34, zlb_y35, zlb_y36]), (none, [(lLo, lHi)], [zlb_y22, zlb_y16, zlb_y18, zlb_y0, zlb_y14, zlb_y15])], [(314, 10, 12), (314, 28, 30), (314, 31, 32), (319, 0, 2), (321, 12, 16), (323, 6, 8)])
set_option maxRecDepth 100000 in
theorem tA175 : vC tS tRA jM 12 tA175c := chkF_ok (D := 11) (hst := jM_st (by decide +kernel)) (T := [(fA0c 0), tA0c, tA143c, tA139c, tA121c]) (N := []) (sp := []) (fu := 59) (fa_cons (vUq (fA0 0) (by decide)) (fa_cons (vUq tA0 (by decide)) (fa_cons (vUq tA143 (by decide)) (fa_cons (vUq tA139 (by decide)) (fa_cons (vUq tA121 (by decide)) (fa_nil)))))) (by decide +kernel)
/-- X12_readClause -/
def tA176c : aCt := (186, [aR [314]], [zlb_y0, zlb_y19, zlb_y52, zlb_y13, zlb_y1, zlb_y14, zlb_y15], [(none, [(lLo, lHi)], [zlb_y4]), (none, [(lLo, lHi)], [zlb_y52, zlb_y13, zlb_y22, zlb_y0, zlb_y14, zlb_y15, zlb_y23, zlb_y24, zlb_y25, zlb_y26]), (none, [(lLo, lHi)], [zlb_y19, zlb_y52, zlb_y18, zlb_y0, zlb_y14, zlb_y15])], [(314, 10, 12), (314, 28, 29), (314, 31, 32), (319, 0, 2), (321, 8, 12)])
set_option maxRecDepth 100000 in
theorem tA176 : vC tS tRA jM 12 tA176c := chkF_ok (D := 11) (hst := jM_st (by decide +kernel)) (T := [(fA0c 0), tA0c, tA131c, tA121c]) (N := []) (sp := []) (fu := 57) (fa_cons (vUq (fA0 0) (by decide)) (fa_cons (vUq tA0 (by decide)) (fa_cons (vUq tA131 (by decide)) (fa_cons (vUq tA121 (by decide)) (fa_nil))))) (by decide +kernel)
/-- X12_readClause -/
def tA177c : aCt := (186, [aR [314]], [zlb_y0, zlb_y78, zlb_y20, zlb_y18, zlb_y1, zlb_y14, zlb_y15], [(none, [(lLo, lHi)], [zlb_y4]), (none, [(lLo, lHi)], ([zlb_y78, zlb_y18, zlb_y21, zlb_y0, zlb_y14, zlb_y15] ++ ([] ++ fkF 1))), (none, [(lLo, lHi)], [zlb_y20, zlb_y18, zlb_y91, zlb_y0, zlb_y14, zlb_y15, zlb_y79, zlb_y80, zlb_y81, zlb_y82])], [(314, 10, 12), (314, 28, 30), (321, 24, 28), (323, 0, 2)])
set_option maxRecDepth 100000 in
theorem tA177 : vC tS tRA jM 12 tA177c := chkF_ok (D := 11) (hst := jM_st (by decide +kernel)) (T := [(fA0c 0), tA0c, tA25c, tA171c]) (N := []) (sp := []) (fu := 59) (fa_cons (vUq (fA0 0) (by decide)) (fa_cons (vUq tA0 (by decide)) (fa_cons (vUq tA25 (by decide)) (fa_cons (vUq tA171 (by decide)) (fa_nil))))) (by decide +kernel)
/-- X12_readClause -/
def tA178c : aCt := (186, [aR [314]], [zlb_y0, zlb_y65, zlb_y21, zlb_y18, zlb_y1, zlb_y14, zlb_y15], [(none, [(lLo, lHi)], [zlb_y4]), (none, [(lLo, lHi)], [zlb_y65, zlb_y18, zlb_y12, zlb_y0, zlb_y14, zlb_y15, zlb_y27, zlb_y28]), (none, [(lLo, lHi)], [zlb_y21, zlb_y18, zlb_y78, zlb_y0, zlb_y14, zlb_y15, zlb_y66, zlb_y67, zlb_y68, zlb_y69])], [(314, 10, 12), (314, 28, 30), (321, 20, 24), (323, 2, 4)])
set_option maxRecDepth 100000 in
theorem tA178 : vC tS tRA jM 12 tA178c := chkF_ok (D := 11) (hst := jM_st (by decide +kernel)) (T := [(fA0c 0), tA0c, tA127c, tA160c]) (N := []) (sp := []) (fu := 59) (fa_cons (vUq (fA0 0) (by decide)) (fa_cons (vUq tA0 (by decide)) (fa_cons (vUq tA127 (by decide)) (fa_cons (vUq tA160 (by decide)) (fa_nil))))) (by decide +kernel)
/-- X12_readClause -/
def tA179c : aCt := (186, [aR [314]], [zlb_y0, zlb_y45, zlb_y12, zlb_y18, zlb_y1, zlb_y14, zlb_y15], [(none, [(lLo, lHi)], [zlb_y4]), (none, [(lLo, lHi)], [zlb_y45, zlb_y18, zlb_y16, zlb_y0, zlb_y14, zlb_y15, zlb_y2, zlb_y3]), (none, [(lLo, lHi)], [zlb_y12, zlb_y18, zlb_y65, zlb_y0, zlb_y14, zlb_y15, zlb_y53, zlb_y54, zlb_y55, zlb_y56])], [(314, 10, 12), (314, 28, 30), (321, 16, 20), (323, 4, 6)])
set_option maxRecDepth 100000 in
theorem tA179 : vC tS tRA jM 12 tA179c := chkF_ok (D := 11) (hst := jM_st (by decide +kernel)) (T := [(fA0c 0), tA0c, tA134c, tA149c]) (N := []) (sp := []) (fu := 59) (fa_cons (vUq (fA0 0) (by decide)) (fa_cons (vUq tA0 (by decide)) (fa_cons (vUq tA134 (by decide)) (fa_cons (vUq tA149 (by decide)) (fa_nil))))) (by decide +kernel)
/-- X12_readClause -/
def tA180c : aCt := (186, [aR [314]], [zlb_y0, zlb_y22, zlb_y16, zlb_y18, zlb_y1, zlb_y14, zlb_y15], [(none, [(lLo, lHi)], [zlb_y4]), (none, [(lLo, lHi)], [zlb_y22, zlb_y18, zlb_y52, zlb_y0, zlb_y14, zlb_y15, zlb_y46, zlb_y47]), (none, [(lLo, lHi)], [zlb_y16, zlb_y18, zlb_y45, zlb_y0, zlb_y14, zlb_y15, zlb_y33, zlb_y34, zlb_y35, zlb_y36])], [(314, 10, 12), (314, 28, 30), (321, 12, 16), (323, 6, 8)])
set_option maxRecDepth 100000 in
theorem tA180 : vC tS tRA jM 12 tA180c := chkF_ok (D := 11) (hst := jM_st (by decide +kernel)) (T := [(fA0c 0), tA0c, tA143c, tA139c]) (N := []) (sp := []) (fu := 59) (fa_cons (vUq (fA0 0) (by decide)) (fa_cons (vUq tA0 (by decide)) (fa_cons (vUq tA143 (by decide)) (fa_cons (vUq tA139 (by decide)) (fa_nil))))) (by decide +kernel)
/-- X12_readClause -/
def tA181c : aCt := (186, [aR [314]], [zlb_y0, zlb_y19, zlb_y52, zlb_y18, zlb_y1, zlb_y14, zlb_y15], [(none, [(lLo, lHi)], [zlb_y4]), (none, [(lLo, lHi)], [zlb_y52, zlb_y18, zlb_y22, zlb_y0, zlb_y14, zlb_y15, zlb_y23, zlb_y24, zlb_y25, zlb_y26])], [(314, 10, 12), (314, 28, 29), (321, 8, 12)])
set_option maxRecDepth 100000 in
theorem tA181 : vC tS tRA jM 12 tA181c := chkF_ok (D := 11) (hst := jM_st (by decide +kernel)) (T := [(fA0c 0), tA0c, tA131c]) (N := []) (sp := []) (fu := 57) (fa_cons (vUq (fA0 0) (by decide)) (fa_cons (vUq tA0 (by decide)) (fa_cons (vUq tA131 (by decide)) (fa_nil)))) (by decide +kernel)
/-- X12_readItems -/
def tA182c : aCt := (185, [aR [314], aI 101 101, aR [321], aI 28 28, aR [1003]], zlb_q0, [(none, zlb_l5, [zlb_y0, zlb_y92, zlb_y93, zlb_y94, zlb_y95]), (none, zlb_l5, [zlb_y4])], [(314, 10, 12), (321, 28, 32)])
set_option maxRecDepth 100000 in
theorem tA182 : vC tS tRA jM 11 tA182c := chkF_ok (D := 10) (hst := jM_st (by decide +kernel)) (T := [(fA3c 0), tA26c, tA27c, tA28c, tA29c, tA30c, (fA0c 0), tA35c, tA36c, tA8c, tA37c, tA38c, tA13c, tA14c, tA39c, tA40c, tA41c, tA42c, tA43c, tA45c, tA46c, tA47c, tA48c, tA50c, tA19c, tA0c, tA20c, tA51c, tA52c, tA21c, tA22c, tA53c, tA54c, tA55c, tA56c, tA57c, tA58c, tA59c, tA60c, tA61c, tA62c, tA23c, tA24c, tA63c, tA64c, tA65c, tA66c, tA67c, tA68c, tA69c, tA70c, tA71c, tA72c, tA73c, tA74c, tA75c, tA76c, tA77c, tA78c, tA79c, tA80c, tA81c, tA82c, tA83c, tA84c, tA85c, tA86c, tA87c, tA88c, tA89c, tA90c, tA91c, tA92c, tA93c, tA94c, tA95c, tA96c, tA97c, tA98c, tA99c, tA100c, tA101c, tA102c, tA103c, tA104c]) (N := [(3, [zlb_x0, zlb_x12, zlb_x13, zlb_x34, zlb_x15, zlb_x5], zlb_q0, 9, []),
  (3, [zlb_x0, zlb_x12, zlb_x13, zlb_x34, zlb_x15, zlb_x6], [zlb_y0, zlb_y1, zlb_y96], 8, []),
  (3, [zlb_x0, zlb_x12, zlb_x13, zlb_x34, zlb_x15, zlb_x7], [zlb_y0, zlb_y1, zlb_y96, zlb_y97], 7, []),
  (3, [zlb_x0, zlb_x12, zlb_x13, zlb_x34, zlb_x15, zlb_x11], [zlb_y0, zlb_y1, zlb_y96, zlb_y97, zlb_y98], 6, []),
  (3, [zlb_x0, zlb_x12, zlb_x13, zlb_x34, zlb_x15, zlb_x16], zlb_q53, 5, []),
  (45, [zlb_x0, zlb_x12, zlb_x13, zlb_x34, zlb_x15, zlb_x5, zlb_x8], zlb_q54, 4, []),
  (45, [zlb_x0, zlb_x12, zlb_x13, zlb_x34, zlb_x15, zlb_x5, zlb_x9], zlb_q54, 4, []),
  (45, [zlb_x0, zlb_x12, zlb_x13, zlb_x34, zlb_x15, zlb_x5, zlb_x17], zlb_q54, 4, []),
  (45, [zlb_x0, zlb_x12, zlb_x13, zlb_x34, zlb_x15, zlb_x5, zlb_x18], zlb_q54, 4, []),
  (45, [zlb_x0, zlb_x12, zlb_x13, zlb_x34, zlb_x15, zlb_x5, zlb_x10], zlb_q53, 0, []),
  (45, [zlb_x0, zlb_x12, zlb_x13, zlb_x34, zlb_x15, zlb_x6, zlb_x8], [zlb_y1, zlb_y97, zlb_y98, zlb_y99, zlb_y100], 0, []),
  (45, [zlb_x0, zlb_x12, zlb_x13, zlb_x34, zlb_x15, zlb_x6, zlb_x9], zlb_q55, 3, []),
  (45, [zlb_x0, zlb_x12, zlb_x13, zlb_x34, zlb_x15, zlb_x6, zlb_x17], zlb_q55, 3, []),
  (45, [zlb_x0, zlb_x12, zlb_x13, zlb_x34, zlb_x15, zlb_x6, zlb_x18], zlb_q55, 3, []),
  (45, [zlb_x0, zlb_x12, zlb_x13, zlb_x34, zlb_x15, zlb_x6, zlb_x10], [zlb_y0, zlb_y1, zlb_y97, zlb_y98, zlb_y99, zlb_y92, zlb_y9], 0, []),
  (45, [zlb_x0, zlb_x12, zlb_x13, zlb_x34, zlb_x15, zlb_x7, zlb_x8], zlb_q56, 3, []),
  (45, [zlb_x0, zlb_x12, zlb_x13, zlb_x34, zlb_x15, zlb_x7, zlb_x9], [zlb_y1, zlb_y96, zlb_y98, zlb_y99, zlb_y101], 0, []),
  (45, [zlb_x0, zlb_x12, zlb_x13, zlb_x34, zlb_x15, zlb_x7, zlb_x17], zlb_q56, 3, []),
  (45, [zlb_x0, zlb_x12, zlb_x13, zlb_x34, zlb_x15, zlb_x7, zlb_x18], zlb_q56, 3, []),
  (45, [zlb_x0, zlb_x12, zlb_x13, zlb_x34, zlb_x15, zlb_x7, zlb_x10], [zlb_y0, zlb_y1, zlb_y96, zlb_y98, zlb_y99, zlb_y93, zlb_y9], 0, []),
  (45, [zlb_x0, zlb_x12, zlb_x13, zlb_x34, zlb_x15, zlb_x16, zlb_x8], zlb_q57, 3, []),
  (45, [zlb_x0, zlb_x12, zlb_x13, zlb_x34, zlb_x15, zlb_x16, zlb_x9], zlb_q57, 3, []),
  (45, [zlb_x0, zlb_x12, zlb_x13, zlb_x34, zlb_x15, zlb_x16, zlb_x17], [zlb_y1, zlb_y96, zlb_y97, zlb_y99, zlb_y102], 0, []),
  (45, [zlb_x0, zlb_x12, zlb_x13, zlb_x34, zlb_x15, zlb_x16, zlb_x18], zlb_q57, 3, []),
  (45, [zlb_x0, zlb_x12, zlb_x13, zlb_x34, zlb_x15, zlb_x16, zlb_x10], [zlb_y0, zlb_y1, zlb_y96, zlb_y97, zlb_y99, zlb_y94, zlb_y9], 0, []),
  (45, [zlb_x0, zlb_x12, zlb_x13, zlb_x34, zlb_x15, zlb_x19, zlb_x8], zlb_q58, 3, []),
  (45, [zlb_x0, zlb_x12, zlb_x13, zlb_x34, zlb_x15, zlb_x19, zlb_x9], zlb_q58, 3, []),
  (45, [zlb_x0, zlb_x12, zlb_x13, zlb_x34, zlb_x15, zlb_x19, zlb_x17], zlb_q58, 3, []),
  (45, [zlb_x0, zlb_x12, zlb_x13, zlb_x34, zlb_x15, zlb_x19, zlb_x18], [zlb_y1, zlb_y96, zlb_y97, zlb_y98, zlb_y103], 0, []),
  (45, [zlb_x0, zlb_x12, zlb_x13, zlb_x34, zlb_x15, zlb_x19, zlb_x10], [zlb_y0, zlb_y1, zlb_y96, zlb_y97, zlb_y98, zlb_y95, zlb_y9], 0, []),
  (45, [zlb_x0, zlb_x12, zlb_x13, zlb_x34, zlb_x15, zlb_x11, zlb_x8], [zlb_y1, zlb_y98, zlb_y99, zlb_y100, zlb_y93], 0, []),
  (45, [zlb_x0, zlb_x12, zlb_x13, zlb_x34, zlb_x15, zlb_x11, zlb_x9], [zlb_y1, zlb_y98, zlb_y99, zlb_y92, zlb_y101], 0, []),
  (45, [zlb_x0, zlb_x12, zlb_x13, zlb_x34, zlb_x15, zlb_x11, zlb_x17], zlb_q59, 2, []),
  (45, [zlb_x0, zlb_x12, zlb_x13, zlb_x34, zlb_x15, zlb_x11, zlb_x18], zlb_q59, 2, []),
  (45, [zlb_x0, zlb_x12, zlb_x13, zlb_x34, zlb_x15, zlb_x11, zlb_x10], [zlb_y0, zlb_y1, zlb_y98, zlb_y99, zlb_y92, zlb_y93, zlb_y9], 0, []),
  (45, [zlb_x0, zlb_x12, zlb_x13, zlb_x34, zlb_x15, zlb_x20, zlb_x8], [zlb_y1, zlb_y97, zlb_y99, zlb_y100, zlb_y94], 0, []),
  (45, [zlb_x0, zlb_x12, zlb_x13, zlb_x34, zlb_x15, zlb_x20, zlb_x9], zlb_q60, 2, []),
  (45, [zlb_x0, zlb_x12, zlb_x13, zlb_x34, zlb_x15, zlb_x20, zlb_x17], [zlb_y1, zlb_y97, zlb_y99, zlb_y92, zlb_y102], 0, []),
  (45, [zlb_x0, zlb_x12, zlb_x13, zlb_x34, zlb_x15, zlb_x20, zlb_x18], zlb_q60, 2, []),
  (45, [zlb_x0, zlb_x12, zlb_x13, zlb_x34, zlb_x15, zlb_x20, zlb_x10], [zlb_y0, zlb_y1, zlb_y97, zlb_y99, zlb_y92, zlb_y94, zlb_y9], 0, []),
  (45, [zlb_x0, zlb_x12, zlb_x13, zlb_x34, zlb_x15, zlb_x21, zlb_x8], [zlb_y1, zlb_y97, zlb_y98, zlb_y100, zlb_y95], 0, []),
  (45, [zlb_x0, zlb_x12, zlb_x13, zlb_x34, zlb_x15, zlb_x21, zlb_x9], zlb_q61, 2, []),
  (45, [zlb_x0, zlb_x12, zlb_x13, zlb_x34, zlb_x15, zlb_x21, zlb_x17], zlb_q61, 2, []),
  (45, [zlb_x0, zlb_x12, zlb_x13, zlb_x34, zlb_x15, zlb_x21, zlb_x18], [zlb_y1, zlb_y97, zlb_y98, zlb_y92, zlb_y103], 0, []),
  (45, [zlb_x0, zlb_x12, zlb_x13, zlb_x34, zlb_x15, zlb_x21, zlb_x10], [zlb_y0, zlb_y1, zlb_y97, zlb_y98, zlb_y92, zlb_y95, zlb_y9], 0, []),
  (45, [zlb_x0, zlb_x12, zlb_x13, zlb_x34, zlb_x15, zlb_x22, zlb_x8], zlb_q62, 2, []),
  (45, [zlb_x0, zlb_x12, zlb_x13, zlb_x34, zlb_x15, zlb_x22, zlb_x9], [zlb_y1, zlb_y96, zlb_y99, zlb_y101, zlb_y94], 0, []),
  (45, [zlb_x0, zlb_x12, zlb_x13, zlb_x34, zlb_x15, zlb_x22, zlb_x17], [zlb_y1, zlb_y96, zlb_y99, zlb_y93, zlb_y102], 0, []),
  (45, [zlb_x0, zlb_x12, zlb_x13, zlb_x34, zlb_x15, zlb_x22, zlb_x18], zlb_q62, 2, []),
  (45, [zlb_x0, zlb_x12, zlb_x13, zlb_x34, zlb_x15, zlb_x22, zlb_x10], [zlb_y0, zlb_y1, zlb_y96, zlb_y99, zlb_y93, zlb_y94, zlb_y9], 0, []),
  (45, [zlb_x0, zlb_x12, zlb_x13, zlb_x34, zlb_x15, zlb_x23, zlb_x8], zlb_q63, 2, []),
  (45, [zlb_x0, zlb_x12, zlb_x13, zlb_x34, zlb_x15, zlb_x23, zlb_x9], [zlb_y1, zlb_y96, zlb_y98, zlb_y101, zlb_y95], 0, []),
  (45, [zlb_x0, zlb_x12, zlb_x13, zlb_x34, zlb_x15, zlb_x23, zlb_x17], zlb_q63, 2, []),
  (45, [zlb_x0, zlb_x12, zlb_x13, zlb_x34, zlb_x15, zlb_x23, zlb_x18], [zlb_y1, zlb_y96, zlb_y98, zlb_y93, zlb_y103], 0, []),
  (45, [zlb_x0, zlb_x12, zlb_x13, zlb_x34, zlb_x15, zlb_x23, zlb_x10], [zlb_y0, zlb_y1, zlb_y96, zlb_y98, zlb_y93, zlb_y95, zlb_y9], 0, []),
  (45, [zlb_x0, zlb_x12, zlb_x13, zlb_x34, zlb_x15, zlb_x24, zlb_x8], zlb_q64, 2, []),
  (45, [zlb_x0, zlb_x12, zlb_x13, zlb_x34, zlb_x15, zlb_x24, zlb_x9], zlb_q64, 2, []),
  (45, [zlb_x0, zlb_x12, zlb_x13, zlb_x34, zlb_x15, zlb_x24, zlb_x17], [zlb_y1, zlb_y96, zlb_y97, zlb_y102, zlb_y95], 0, []),
  (45, [zlb_x0, zlb_x12, zlb_x13, zlb_x34, zlb_x15, zlb_x24, zlb_x18], [zlb_y1, zlb_y96, zlb_y97, zlb_y94, zlb_y103], 0, []),
  (45, [zlb_x0, zlb_x12, zlb_x13, zlb_x34, zlb_x15, zlb_x24, zlb_x10], [zlb_y0, zlb_y1, zlb_y96, zlb_y97, zlb_y94, zlb_y95, zlb_y9], 0, []),
  (45, [zlb_x0, zlb_x12, zlb_x13, zlb_x34, zlb_x15, zlb_x25, zlb_x8], [zlb_y1, zlb_y99, zlb_y100, zlb_y93, zlb_y94], 0, []),
  (45, [zlb_x0, zlb_x12, zlb_x13, zlb_x34, zlb_x15, zlb_x25, zlb_x9], [zlb_y1, zlb_y99, zlb_y92, zlb_y101, zlb_y94], 0, []),
  (45, [zlb_x0, zlb_x12, zlb_x13, zlb_x34, zlb_x15, zlb_x25, zlb_x17], [zlb_y1, zlb_y99, zlb_y92, zlb_y93, zlb_y102], 0, []),
  (45, [zlb_x0, zlb_x12, zlb_x13, zlb_x34, zlb_x15, zlb_x25, zlb_x18], [zlb_y0, zlb_y1, zlb_y99, zlb_y92, zlb_y93, zlb_y94, zlb_y7], 1, []),
  (45, [zlb_x0, zlb_x12, zlb_x13, zlb_x34, zlb_x15, zlb_x25, zlb_x10], [zlb_y0, zlb_y1, zlb_y99, zlb_y92, zlb_y93, zlb_y94, zlb_y9], 0, []),
  (45, [zlb_x0, zlb_x12, zlb_x13, zlb_x34, zlb_x15, zlb_x26, zlb_x8], [zlb_y1, zlb_y98, zlb_y100, zlb_y93, zlb_y95], 0, []),
  (45, [zlb_x0, zlb_x12, zlb_x13, zlb_x34, zlb_x15, zlb_x26, zlb_x9], [zlb_y1, zlb_y98, zlb_y92, zlb_y101, zlb_y95], 0, []),
  (45, [zlb_x0, zlb_x12, zlb_x13, zlb_x34, zlb_x15, zlb_x26, zlb_x17], [zlb_y0, zlb_y1, zlb_y98, zlb_y92, zlb_y93, zlb_y95, zlb_y7], 1, []),
  (45, [zlb_x0, zlb_x12, zlb_x13, zlb_x34, zlb_x15, zlb_x26, zlb_x18], [zlb_y1, zlb_y98, zlb_y92, zlb_y93, zlb_y103], 0, []),
  (45, [zlb_x0, zlb_x12, zlb_x13, zlb_x34, zlb_x15, zlb_x26, zlb_x10], [zlb_y0, zlb_y1, zlb_y98, zlb_y92, zlb_y93, zlb_y95, zlb_y9], 0, []),
  (45, [zlb_x0, zlb_x12, zlb_x13, zlb_x34, zlb_x15, zlb_x27, zlb_x8], [zlb_y1, zlb_y97, zlb_y100, zlb_y94, zlb_y95], 0, []),
  (45, [zlb_x0, zlb_x12, zlb_x13, zlb_x34, zlb_x15, zlb_x27, zlb_x9], [zlb_y0, zlb_y1, zlb_y97, zlb_y92, zlb_y94, zlb_y95, zlb_y7], 1, []),
  (45, [zlb_x0, zlb_x12, zlb_x13, zlb_x34, zlb_x15, zlb_x27, zlb_x17], [zlb_y1, zlb_y97, zlb_y92, zlb_y102, zlb_y95], 0, []),
  (45, [zlb_x0, zlb_x12, zlb_x13, zlb_x34, zlb_x15, zlb_x27, zlb_x18], [zlb_y1, zlb_y97, zlb_y92, zlb_y94, zlb_y103], 0, []),
  (45, [zlb_x0, zlb_x12, zlb_x13, zlb_x34, zlb_x15, zlb_x27, zlb_x10], [zlb_y0, zlb_y1, zlb_y97, zlb_y92, zlb_y94, zlb_y95, zlb_y9], 0, []),
  (45, [zlb_x0, zlb_x12, zlb_x13, zlb_x34, zlb_x15, zlb_x28, zlb_x8], [zlb_y0, zlb_y1, zlb_y96, zlb_y93, zlb_y94, zlb_y95, zlb_y7], 1, []),
  (45, [zlb_x0, zlb_x12, zlb_x13, zlb_x34, zlb_x15, zlb_x28, zlb_x9], [zlb_y1, zlb_y96, zlb_y101, zlb_y94, zlb_y95], 0, []),
  (45, [zlb_x0, zlb_x12, zlb_x13, zlb_x34, zlb_x15, zlb_x28, zlb_x17], [zlb_y1, zlb_y96, zlb_y93, zlb_y102, zlb_y95], 0, []),
  (45, [zlb_x0, zlb_x12, zlb_x13, zlb_x34, zlb_x15, zlb_x28, zlb_x18], [zlb_y1, zlb_y96, zlb_y93, zlb_y94, zlb_y103], 0, []),
  (45, [zlb_x0, zlb_x12, zlb_x13, zlb_x34, zlb_x15, zlb_x28, zlb_x10], [zlb_y0, zlb_y1, zlb_y96, zlb_y93, zlb_y94, zlb_y95, zlb_y9], 0, []),
  (45, [zlb_x0, zlb_x12, zlb_x13, zlb_x34, zlb_x15, zlb_x29, zlb_x8], [zlb_y1, zlb_y100, zlb_y93, zlb_y94, zlb_y95], 0, []),
  (45, [zlb_x0, zlb_x12, zlb_x13, zlb_x34, zlb_x15, zlb_x29, zlb_x9], [zlb_y1, zlb_y92, zlb_y101, zlb_y94, zlb_y95], 0, []),
  (45, [zlb_x0, zlb_x12, zlb_x13, zlb_x34, zlb_x15, zlb_x29, zlb_x17], [zlb_y1, zlb_y92, zlb_y93, zlb_y102, zlb_y95], 0, []),
  (45, [zlb_x0, zlb_x12, zlb_x13, zlb_x34, zlb_x15, zlb_x29, zlb_x18], [zlb_y1, zlb_y92, zlb_y93, zlb_y94, zlb_y103], 0, []),
  (45, [zlb_x0, zlb_x12, zlb_x13, zlb_x34, zlb_x15, zlb_x29, zlb_x10], [zlb_y0, zlb_y1, zlb_y92, zlb_y93, zlb_y94, zlb_y95, zlb_y9], 0, [])]) (sp := [(3, 5), (45, 6)]) (fu := 54) (fa_cons (vUq (fA3 0) (by decide)) (fa_cons (vUq tA26 (by decide)) (fa_cons (vUq tA27 (by decide)) (fa_cons (vUq tA28 (by decide)) (fa_cons (vUq tA29 (by decide)) (fa_cons (vUq tA30 (by decide)) (fa_cons (vUq (fA0 0) (by decide)) (fa_cons (vUq tA35 (by decide)) (fa_cons (vUq tA36 (by decide)) (fa_cons (vUq tA8 (by decide)) (fa_cons (vUq tA37 (by decide)) (fa_cons (vUq tA38 (by decide)) (fa_cons (vUq tA13 (by decide)) (fa_cons (vUq tA14 (by decide)) (fa_cons (vUq tA39 (by decide)) (fa_cons (vUq tA40 (by decide)) (fa_cons (vUq tA41 (by decide)) (fa_cons (vUq tA42 (by decide)) (fa_cons (vUq tA43 (by decide)) (fa_cons (vUq tA45 (by decide)) (fa_cons (vUq tA46 (by decide)) (fa_cons (vUq tA47 (by decide)) (fa_cons (vUq tA48 (by decide)) (fa_cons (vUq tA50 (by decide)) (fa_cons (vUq tA19 (by decide)) (fa_cons (vUq tA0 (by decide)) (fa_cons (vUq tA20 (by decide)) (fa_cons (vUq tA51 (by decide)) (fa_cons (vUq tA52 (by decide)) (fa_cons (vUq tA21 (by decide)) (fa_cons (vUq tA22 (by decide)) (fa_cons (vUq tA53 (by decide)) (fa_cons (vUq tA54 (by decide)) (fa_cons (vUq tA55 (by decide)) (fa_cons (vUq tA56 (by decide)) (fa_cons (vUq tA57 (by decide)) (fa_cons (vUq tA58 (by decide)) (fa_cons (vUq tA59 (by decide)) (fa_cons (vUq tA60 (by decide)) (fa_cons (vUq tA61 (by decide)) (fa_cons (vUq tA62 (by decide)) (fa_cons (vUq tA23 (by decide)) (fa_cons (vUq tA24 (by decide)) (fa_cons (vUq tA63 (by decide)) (fa_cons (vUq tA64 (by decide)) (fa_cons (vUq tA65 (by decide)) (fa_cons (vUq tA66 (by decide)) (fa_cons (vUq tA67 (by decide)) (fa_cons (vUq tA68 (by decide)) (fa_cons (vUq tA69 (by decide)) (fa_cons (vUq tA70 (by decide)) (fa_cons (vUq tA71 (by decide)) (fa_cons (vUq tA72 (by decide)) (fa_cons (vUq tA73 (by decide)) (fa_cons (vUq tA74 (by decide)) (fa_cons (vUq tA75 (by decide)) (fa_cons (vUq tA76 (by decide)) (fa_cons (vUq tA77 (by decide)) (fa_cons (vUq tA78 (by decide)) (fa_cons (vUq tA79 (by decide)) (fa_cons (vUq tA80 (by decide)) (fa_cons (vUq tA81 (by decide)) (fa_cons (vUq tA82 (by decide)) (fa_cons (vUq tA83 (by decide)) (fa_cons (vUq tA84 (by decide)) (fa_cons (vUq tA85 (by decide)) (fa_cons (vUq tA86 (by decide)) (fa_cons (vUq tA87 (by decide)) (fa_cons (vUq tA88 (by decide)) (fa_cons (vUq tA89 (by decide)) (fa_cons (vUq tA90 (by decide)) (fa_cons (vUq tA91 (by decide)) (fa_cons (vUq tA92 (by decide)) (fa_cons (vUq tA93 (by decide)) (fa_cons (vUq tA94 (by decide)) (fa_cons (vUq tA95 (by decide)) (fa_cons (vUq tA96 (by decide)) (fa_cons (vUq tA97 (by decide)) (fa_cons (vUq tA98 (by decide)) (fa_cons (vUq tA99 (by decide)) (fa_cons (vUq tA100 (by decide)) (fa_cons (vUq tA101 (by decide)) (fa_cons (vUq tA102 (by decide)) (fa_cons (vUq tA103 (by decide)) (fa_cons (vUq tA104 (by decide)) (fa_nil)))))))))))))))))))))))))))))))))))))))))))))))))))))))))))))))))))))))))))))))))))))) (by decide +kernel)
/-- X12_readClause -/
def tA183c : aCt := (186, [aR [314]], [zlb_y0, zlb_y91, zlb_y20, zlb_y13, zlb_y1, zlb_y14, zlb_y15], [(none, [(lLo, lHi)], [zlb_y4]), (none, [(lLo, lHi)], ([zlb_y91, zlb_y13, zlb_y21, zlb_y0, zlb_y14, zlb_y15] ++ ([] ++ fkF 1))), (none, [(lLo, lHi)], [zlb_y20, zlb_y13, zlb_y104, zlb_y0, zlb_y14, zlb_y15, zlb_y92, zlb_y93, zlb_y94, zlb_y95]), (none, [(lLo, lHi)], [zlb_y91, zlb_y20, zlb_y18, zlb_y0, zlb_y14, zlb_y15])], [(314, 10, 12), (314, 28, 30), (314, 31, 32), (319, 0, 2), (321, 28, 32), (323, 0, 2)])
set_option maxRecDepth 100000 in
theorem tA183 : vC tS tRA jM 12 tA183c := chkF_ok (D := 11) (hst := jM_st (by decide +kernel)) (T := [(fA0c 0), tA0c, tA25c, tA182c, tA121c]) (N := []) (sp := []) (fu := 59) (fa_cons (vUq (fA0 0) (by decide)) (fa_cons (vUq tA0 (by decide)) (fa_cons (vUq tA25 (by decide)) (fa_cons (vUq tA182 (by decide)) (fa_cons (vUq tA121 (by decide)) (fa_nil)))))) (by decide +kernel)
/-- X12_readClause -/
def tA184c : aCt := (186, [aR [314]], [zlb_y0, zlb_y78, zlb_y21, zlb_y13, zlb_y1, zlb_y14, zlb_y15], [(none, [(lLo, lHi)], [zlb_y4]), (none, [(lLo, lHi)], [zlb_y78, zlb_y13, zlb_y12, zlb_y0, zlb_y14, zlb_y15, zlb_y27, zlb_y28]), (none, [(lLo, lHi)], [zlb_y21, zlb_y13, zlb_y91, zlb_y0, zlb_y14, zlb_y15, zlb_y79, zlb_y80, zlb_y81, zlb_y82]), (none, [(lLo, lHi)], [zlb_y78, zlb_y21, zlb_y18, zlb_y0, zlb_y14, zlb_y15])], [(314, 10, 12), (314, 28, 30), (314, 31, 32), (319, 0, 2), (321, 24, 28), (323, 2, 4)])
set_option maxRecDepth 100000 in
theorem tA184 : vC tS tRA jM 12 tA184c := chkF_ok (D := 11) (hst := jM_st (by decide +kernel)) (T := [(fA0c 0), tA0c, tA127c, tA171c, tA121c]) (N := []) (sp := []) (fu := 59) (fa_cons (vUq (fA0 0) (by decide)) (fa_cons (vUq tA0 (by decide)) (fa_cons (vUq tA127 (by decide)) (fa_cons (vUq tA171 (by decide)) (fa_cons (vUq tA121 (by decide)) (fa_nil)))))) (by decide +kernel)
/-- X12_readClause -/
def tA185c : aCt := (186, [aR [314]], [zlb_y0, zlb_y65, zlb_y12, zlb_y13, zlb_y1, zlb_y14, zlb_y15], [(none, [(lLo, lHi)], [zlb_y4]), (none, [(lLo, lHi)], [zlb_y65, zlb_y13, zlb_y16, zlb_y0, zlb_y14, zlb_y15, zlb_y2, zlb_y3]), (none, [(lLo, lHi)], [zlb_y12, zlb_y13, zlb_y78, zlb_y0, zlb_y14, zlb_y15, zlb_y66, zlb_y67, zlb_y68, zlb_y69]), (none, [(lLo, lHi)], [zlb_y65, zlb_y12, zlb_y18, zlb_y0, zlb_y14, zlb_y15])], [(314, 10, 12), (314, 28, 30), (314, 31, 32), (319, 0, 2), (321, 20, 24), (323, 4, 6)])
set_option maxRecDepth 100000 in
theorem tA185 : vC tS tRA jM 12 tA185c := chkF_ok (D := 11) (hst := jM_st (by decide +kernel)) (T := [(fA0c 0), tA0c, tA134c, tA160c, tA121c]) (N := []) (sp := []) (fu := 59) (fa_cons (vUq (fA0 0) (by decide)) (fa_cons (vUq tA0 (by decide)) (fa_cons (vUq tA134 (by decide)) (fa_cons (vUq tA160 (by decide)) (fa_cons (vUq tA121 (by decide)) (fa_nil)))))) (by decide +kernel)
/-- X12_readClause -/
def tA186c : aCt := (186, [aR [314]], [zlb_y0, zlb_y45, zlb_y16, zlb_y13, zlb_y1, zlb_y14, zlb_y15], [(none, [(lLo, lHi)], [zlb_y4]), (none, [(lLo, lHi)], [zlb_y45, zlb_y13, zlb_y52, zlb_y0, zlb_y14, zlb_y15, zlb_y46, zlb_y47]), (none, [(lLo, lHi)], [zlb_y16, zlb_y13, zlb_y65, zlb_y0, zlb_y14, zlb_y15, zlb_y53, zlb_y54, zlb_y55, zlb_y56]), (none, [(lLo, lHi)], [zlb_y45, zlb_y16, zlb_y18, zlb_y0, zlb_y14, zlb_y15])], [(314, 10, 12), (314, 28, 30), (314, 31, 32), (319, 0, 2), (321, 16, 20), (323, 6, 8)])
set_option maxRecDepth 100000 in
theorem tA186 : vC tS tRA jM 12 tA186c := chkF_ok (D := 11) (hst := jM_st (by decide +kernel)) (T := [(fA0c 0), tA0c, tA143c, tA149c, tA121c]) (N := []) (sp := []) (fu := 59) (fa_cons (vUq (fA0 0) (by decide)) (fa_cons (vUq tA0 (by decide)) (fa_cons (vUq tA143 (by decide)) (fa_cons (vUq tA149 (by decide)) (fa_cons (vUq tA121 (by decide)) (fa_nil)))))) (by decide +kernel)
/-- X12_readClause -/
def tA187c : aCt := (186, [aR [314]], [zlb_y0, zlb_y22, zlb_y52, zlb_y13, zlb_y1, zlb_y14, zlb_y15], [(none, [(lLo, lHi)], [zlb_y4]), (none, [(lLo, lHi)], [zlb_y52, zlb_y13, zlb_y45, zlb_y0, zlb_y14, zlb_y15, zlb_y33, zlb_y34, zlb_y35, zlb_y36]), (none, [(lLo, lHi)], [zlb_y22, zlb_y52, zlb_y18, zlb_y0, zlb_y14, zlb_y15])], [(314, 10, 12), (314, 28, 29), (314, 31, 32), (319, 0, 2), (321, 12, 16)])
set_option maxRecDepth 100000 in
theorem tA187 : vC tS tRA jM 12 tA187c := chkF_ok (D := 11) (hst := jM_st (by decide +kernel)) (T := [(fA0c 0), tA0c, tA139c, tA121c]) (N := []) (sp := []) (fu := 57) (fa_cons (vUq (fA0 0) (by decide)) (fa_cons (vUq tA0 (by decide)) (fa_cons (vUq tA139 (by decide)) (fa_cons (vUq tA121 (by decide)) (fa_nil))))) (by decide +kernel)
/-- X12_readClause -/
def tA188c : aCt := (186, [aR [314]], [zlb_y0, zlb_y91, zlb_y20, zlb_y18, zlb_y1, zlb_y14, zlb_y15], [(none, [(lLo, lHi)], [zlb_y4]), (none, [(lLo, lHi)], ([zlb_y91, zlb_y18, zlb_y21, zlb_y0, zlb_y14, zlb_y15] ++ ([] ++ fkF 1))), (none, [(lLo, lHi)], [zlb_y20, zlb_y18, zlb_y104, zlb_y0, zlb_y14, zlb_y15, zlb_y92, zlb_y93, zlb_y94, zlb_y95])], [(314, 10, 12), (314, 28, 30), (321, 28, 32), (323, 0, 2)])
set_option maxRecDepth 100000 in
theorem tA188 : vC tS tRA jM 12 tA188c := chkF_ok (D := 11) (hst := jM_st (by decide +kernel)) (T := [(fA0c 0), tA0c, tA25c, tA182c]) (N := []) (sp := []) (fu := 59) (fa_cons (vUq (fA0 0) (by decide)) (fa_cons (vUq tA0 (by decide)) (fa_cons (vUq tA25 (by decide)) (fa_cons (vUq tA182 (by decide)) (fa_nil))))) (by decide +kernel)
/-- X12_readClause -/
def tA189c : aCt := (186, [aR [314]], [zlb_y0, zlb_y78, zlb_y21, zlb_y18, zlb_y1, zlb_y14, zlb_y15], [(none, [(lLo, lHi)], [zlb_y4]), (none, [(lLo, lHi)], [zlb_y78, zlb_y18, zlb_y12, zlb_y0, zlb_y14, zlb_y15, zlb_y27, zlb_y28]), (none, [(lLo, lHi)], [zlb_y21, zlb_y18, zlb_y91, zlb_y0, zlb_y14, zlb_y15, zlb_y79, zlb_y80, zlb_y81, zlb_y82])], [(314, 10, 12), (314, 28, 30), (321, 24, 28), (323, 2, 4)])
set_option maxRecDepth 100000 in
theorem tA189 : vC tS tRA jM 12 tA189c := chkF_ok (D := 11) (hst := jM_st (by decide +kernel)) (T := [(fA0c 0), tA0c, tA127c, tA171c]) (N := []) (sp := []) (fu := 59) (fa_cons (vUq (fA0 0) (by decide)) (fa_cons (vUq tA0 (by decide)) (fa_cons (vUq tA127 (by decide)) (fa_cons (vUq tA171 (by decide)) (fa_nil))))) (by decide +kernel)
/-- X12_readClause -/
def tA190c : aCt := (186, [aR [314]], [zlb_y0, zlb_y65, zlb_y12, zlb_y18, zlb_y1, zlb_y14, zlb_y15], [(none, [(lLo, lHi)], [zlb_y4]), (none, [(lLo, lHi)], [zlb_y65, zlb_y18, zlb_y16, zlb_y0, zlb_y14, zlb_y15, zlb_y2, zlb_y3]), (none, [(lLo, lHi)], [zlb_y12, zlb_y18, zlb_y78, zlb_y0, zlb_y14, zlb_y15, zlb_y66, zlb_y67, zlb_y68, zlb_y69])], [(314, 10, 12), (314, 28, 30), (321, 20, 24), (323, 4, 6)])
set_option maxRecDepth 100000 in
theorem tA190 : vC tS tRA jM 12 tA190c := chkF_ok (D := 11) (hst := jM_st (by decide +kernel)) (T := [(fA0c 0), tA0c, tA134c, tA160c]) (N := []) (sp := []) (fu := 59) (fa_cons (vUq (fA0 0) (by decide)) (fa_cons (vUq tA0 (by decide)) (fa_cons (vUq tA134 (by decide)) (fa_cons (vUq tA160 (by decide)) (fa_nil))))) (by decide +kernel)
/-- X12_readClause -/
def tA191c : aCt := (186, [aR [314]], [zlb_y0, zlb_y45, zlb_y16, zlb_y18, zlb_y1, zlb_y14, zlb_y15], [(none, [(lLo, lHi)], [zlb_y4]), (none, [(lLo, lHi)], [zlb_y45, zlb_y18, zlb_y52, zlb_y0, zlb_y14, zlb_y15, zlb_y46, zlb_y47]), (none, [(lLo, lHi)], [zlb_y16, zlb_y18, zlb_y65, zlb_y0, zlb_y14, zlb_y15, zlb_y53, zlb_y54, zlb_y55, zlb_y56])], [(314, 10, 12), (314, 28, 30), (321, 16, 20), (323, 6, 8)])
set_option maxRecDepth 100000 in
theorem tA191 : vC tS tRA jM 12 tA191c := chkF_ok (D := 11) (hst := jM_st (by decide +kernel)) (T := [(fA0c 0), tA0c, tA143c, tA149c]) (N := []) (sp := []) (fu := 59) (fa_cons (vUq (fA0 0) (by decide)) (fa_cons (vUq tA0 (by decide)) (fa_cons (vUq tA143 (by decide)) (fa_cons (vUq tA149 (by decide)) (fa_nil))))) (by decide +kernel)
/-- X12_readClause -/
def tA192c : aCt := (186, [aR [314]], [zlb_y0, zlb_y22, zlb_y52, zlb_y18, zlb_y1, zlb_y14, zlb_y15], [(none, [(lLo, lHi)], [zlb_y4]), (none, [(lLo, lHi)], [zlb_y52, zlb_y18, zlb_y45, zlb_y0, zlb_y14, zlb_y15, zlb_y33, zlb_y34, zlb_y35, zlb_y36])], [(314, 10, 12), (314, 28, 29), (321, 12, 16)])
set_option maxRecDepth 100000 in
theorem tA192 : vC tS tRA jM 12 tA192c := chkF_ok (D := 11) (hst := jM_st (by decide +kernel)) (T := [(fA0c 0), tA0c, tA139c]) (N := []) (sp := []) (fu := 57) (fa_cons (vUq (fA0 0) (by decide)) (fa_cons (vUq tA0 (by decide)) (fa_cons (vUq tA139 (by decide)) (fa_nil)))) (by decide +kernel)
/-- X12_readItems -/
def tA193c : aCt := (185, [aR [314], aI 101 101, aR [321], aI 32 32, aR [1003]], zlb_q0, [(none, zlb_l5, [zlb_y0, zlb_y105, zlb_y106, zlb_y107, zlb_y108]), (none, zlb_l5, [zlb_y4])], [(314, 10, 12), (321, 32, 36)])
set_option maxRecDepth 100000 in
theorem tA193 : vC tS tRA jM 11 tA193c := chkF_ok (D := 10) (hst := jM_st (by decide +kernel)) (T := [(fA3c 0), tA26c, tA27c, tA28c, tA29c, tA30c, (fA0c 0), tA35c, tA36c, tA8c, tA37c, tA38c, tA13c, tA14c, tA39c, tA40c, tA41c, tA42c, tA43c, tA45c, tA46c, tA47c, tA48c, tA50c, tA19c, tA0c, tA20c, tA51c, tA52c, tA21c, tA22c, tA53c, tA54c, tA55c, tA56c, tA57c, tA58c, tA59c, tA60c, tA61c, tA62c, tA23c, tA24c, tA63c, tA64c, tA65c, tA66c, tA67c, tA68c, tA69c, tA70c, tA71c, tA72c, tA73c, tA74c, tA75c, tA76c, tA77c, tA78c, tA79c, tA80c, tA81c, tA82c, tA83c, tA84c, tA85c, tA86c, tA87c, tA88c, tA89c, tA90c, tA91c, tA92c, tA93c, tA94c, tA95c, tA96c, tA97c, tA98c, tA99c, tA100c, tA101c, tA102c, tA103c, tA104c]) (N := [(3, [zlb_x0, zlb_x12, zlb_x13, zlb_x35, zlb_x15, zlb_x5], zlb_q0, 9, []),
  (3, [zlb_x0, zlb_x12, zlb_x13, zlb_x35, zlb_x15, zlb_x6], [zlb_y0, zlb_y1, zlb_y109], 8, []),
  (3, [zlb_x0, zlb_x12, zlb_x13, zlb_x35, zlb_x15, zlb_x7], [zlb_y0, zlb_y1, zlb_y109, zlb_y110], 7, []),
  (3, [zlb_x0, zlb_x12, zlb_x13, zlb_x35, zlb_x15, zlb_x11], [zlb_y0, zlb_y1, zlb_y109, zlb_y110, zlb_y111], 6, []),
  (3, [zlb_x0, zlb_x12, zlb_x13, zlb_x35, zlb_x15, zlb_x16], zlb_q65, 5, []),
  (45, [zlb_x0, zlb_x12, zlb_x13, zlb_x35, zlb_x15, zlb_x5, zlb_x8], zlb_q66, 4, []),
  (45, [zlb_x0, zlb_x12, zlb_x13, zlb_x35, zlb_x15, zlb_x5, zlb_x9], zlb_q66, 4, []),
  (45, [zlb_x0, zlb_x12, zlb_x13, zlb_x35, zlb_x15, zlb_x5, zlb_x17], zlb_q66, 4, []),
  (45, [zlb_x0, zlb_x12, zlb_x13, zlb_x35, zlb_x15, zlb_x5, zlb_x18], zlb_q66, 4, []),
  (45, [zlb_x0, zlb_x12, zlb_x13, zlb_x35, zlb_x15, zlb_x5, zlb_x10], zlb_q65, 0, []),
  (45, [zlb_x0, zlb_x12, zlb_x13, zlb_x35, zlb_x15, zlb_x6, zlb_x8], [zlb_y1, zlb_y110, zlb_y111, zlb_y112, zlb_y113], 0, []),
  (45, [zlb_x0, zlb_x12, zlb_x13, zlb_x35, zlb_x15, zlb_x6, zlb_x9], zlb_q67, 3, []),
  (45, [zlb_x0, zlb_x12, zlb_x13, zlb_x35, zlb_x15, zlb_x6, zlb_x17], zlb_q67, 3, []),
  (45, [zlb_x0, zlb_x12, zlb_x13, zlb_x35, zlb_x15, zlb_x6, zlb_x18], zlb_q67, 3, []),
  (45, [zlb_x0, zlb_x12, zlb_x13, zlb_x35, zlb_x15, zlb_x6, zlb_x10], [zlb_y0, zlb_y1, zlb_y110, zlb_y111, zlb_y112, zlb_y105, zlb_y9], 0, []),
  (45, [zlb_x0, zlb_x12, zlb_x13, zlb_x35, zlb_x15, zlb_x7, zlb_x8], zlb_q68, 3, []),
  (45, [zlb_x0, zlb_x12, zlb_x13, zlb_x35, zlb_x15, zlb_x7, zlb_x9], [zlb_y1, zlb_y109, zlb_y111, zlb_y112, zlb_y114], 0, []),
  (45, [zlb_x0, zlb_x12, zlb_x13, zlb_x35, zlb_x15, zlb_x7, zlb_x17], zlb_q68, 3, []),
  (45, [zlb_x0, zlb_x12, zlb_x13, zlb_x35, zlb_x15, zlb_x7, zlb_x18], zlb_q68, 3, []),
  (45, [zlb_x0, zlb_x12, zlb_x13, zlb_x35, zlb_x15, zlb_x7, zlb_x10], [zlb_y0, zlb_y1, zlb_y109, zlb_y111, zlb_y112, zlb_y106, zlb_y9], 0, []),
  (45, [zlb_x0, zlb_x12, zlb_x13, zlb_x35, zlb_x15, zlb_x16, zlb_x8], zlb_q69, 3, []),
  (45, [zlb_x0, zlb_x12, zlb_x13, zlb_x35, zlb_x15, zlb_x16, zlb_x9], zlb_q69, 3, []),
  (45, [zlb_x0, zlb_x12, zlb_x13, zlb_x35, zlb_x15, zlb_x16, zlb_x17], [zlb_y1, zlb_y109, zlb_y110, zlb_y112, zlb_y115], 0, []),
  (45, [zlb_x0, zlb_x12, zlb_x13, zlb_x35, zlb_x15, zlb_x16, zlb_x18], zlb_q69, 3, []),
  (45, [zlb_x0, zlb_x12, zlb_x13, zlb_x35, zlb_x15, zlb_x16, zlb_x10], [zlb_y0, zlb_y1, zlb_y109, zlb_y110, zlb_y112, zlb_y107, zlb_y9], 0, []),
  (45, [zlb_x0, zlb_x12, zlb_x13, zlb_x35, zlb_x15, zlb_x19, zlb_x8], zlb_q70, 3, []),
  (45, [zlb_x0, zlb_x12, zlb_x13, zlb_x35, zlb_x15, zlb_x19, zlb_x9], zlb_q70, 3, []),
  (45, [zlb_x0, zlb_x12, zlb_x13, zlb_x35, zlb_x15, zlb_x19, zlb_x17], zlb_q70, 3, []),
  (45, [zlb_x0, zlb_x12, zlb_x13, zlb_x35, zlb_x15, zlb_x19, zlb_x18], [zlb_y1, zlb_y109, zlb_y110, zlb_y111, zlb_y116], 0, []),
  (45, [zlb_x0, zlb_x12, zlb_x13, zlb_x35, zlb_x15, zlb_x19, zlb_x10], [zlb_y0, zlb_y1, zlb_y109, zlb_y110, zlb_y111, zlb_y108, zlb_y9], 0, []),
  (45, [zlb_x0, zlb_x12, zlb_x13, zlb_x35, zlb_x15, zlb_x11, zlb_x8], [zlb_y1, zlb_y111, zlb_y112, zlb_y113, zlb_y106], 0, []),
  (45, [zlb_x0, zlb_x12, zlb_x13, zlb_x35, zlb_x15, zlb_x11, zlb_x9], [zlb_y1, zlb_y111, zlb_y112, zlb_y105, zlb_y114], 0, []),
  (45, [zlb_x0, zlb_x12, zlb_x13, zlb_x35, zlb_x15, zlb_x11, zlb_x17], zlb_q71, 2, []),
  (45, [zlb_x0, zlb_x12, zlb_x13, zlb_x35, zlb_x15, zlb_x11, zlb_x18], zlb_q71, 2, []),
  (45, [zlb_x0, zlb_x12, zlb_x13, zlb_x35, zlb_x15, zlb_x11, zlb_x10], [zlb_y0, zlb_y1, zlb_y111, zlb_y112, zlb_y105, zlb_y106, zlb_y9], 0, []),
  (45, [zlb_x0, zlb_x12, zlb_x13, zlb_x35, zlb_x15, zlb_x20, zlb_x8], [zlb_y1, zlb_y110, zlb_y112, zlb_y113, zlb_y107], 0, []),
  (45, [zlb_x0, zlb_x12, zlb_x13, zlb_x35, zlb_x15, zlb_x20, zlb_x9], zlb_q72, 2, []),
  (45, [zlb_x0, zlb_x12, zlb_x13, zlb_x35, zlb_x15, zlb_x20, zlb_x17], [zlb_y1, zlb_y110, zlb_y112, zlb_y105, zlb_y115], 0, []),
  (45, [zlb_x0, zlb_x12, zlb_x13, zlb_x35, zlb_x15, zlb_x20, zlb_x18], zlb_q72, 2, []),
  (45, [zlb_x0, zlb_x12, zlb_x13, zlb_x35, zlb_x15, zlb_x20, zlb_x10], [zlb_y0, zlb_y1, zlb_y110, zlb_y112, zlb_y105, zlb_y107, zlb_y9], 0, []),
  (45, [zlb_x0, zlb_x12, zlb_x13, zlb_x35, zlb_x15, zlb_x21, zlb_x8], [zlb_y1, zlb_y110, zlb_y111, zlb_y113, zlb_y108], 0, []),
  (45, [zlb_x0, zlb_x12, zlb_x13, zlb_x35, zlb_x15, zlb_x21, zlb_x9], zlb_q73, 2, []),
  (45, [zlb_x0, zlb_x12, zlb_x13, zlb_x35, zlb_x15, zlb_x21, zlb_x17], zlb_q73, 2, []),
  (45, [zlb_x0, zlb_x12, zlb_x13, zlb_x35, zlb_x15, zlb_x21, zlb_x18], [zlb_y1, zlb_y110, zlb_y111, zlb_y105, zlb_y116], 0, []),
  (45, [zlb_x0, zlb_x12, zlb_x13, zlb_x35, zlb_x15, zlb_x21, zlb_x10], [zlb_y0, zlb_y1, zlb_y110, zlb_y111, zlb_y105, zlb_y108, zlb_y9], 0, []),
  (45, [zlb_x0, zlb_x12, zlb_x13, zlb_x35, zlb_x15, zlb_x22, zlb_x8], zlb_q74, 2, []),
  (45, [zlb_x0, zlb_x12, zlb_x13, zlb_x35, zlb_x15, zlb_x22, zlb_x9], [zlb_y1, zlb_y109, zlb_y112, zlb_y114, zlb_y107], 0, []),
  (45, [zlb_x0, zlb_x12, zlb_x13, zlb_x35, zlb_x15, zlb_x22, zlb_x17], [zlb_y1, zlb_y109, zlb_y112, zlb_y106, zlb_y115], 0, []),
  (45, [zlb_x0, zlb_x12, zlb_x13, zlb_x35, zlb_x15, zlb_x22, zlb_x18], zlb_q74, 2, []),
  (45, [zlb_x0, zlb_x12, zlb_x13, zlb_x35, zlb_x15, zlb_x22, zlb_x10], [zlb_y0, zlb_y1, zlb_y109, zlb_y112, zlb_y106, zlb_y107, zlb_y9], 0, []),
  (45, [zlb_x0, zlb_x12, zlb_x13, zlb_x35, zlb_x15, zlb_x23, zlb_x8], zlb_q75, 2, []),
  (45, [zlb_x0, zlb_x12, zlb_x13, zlb_x35, zlb_x15, zlb_x23, zlb_x9], [zlb_y1, zlb_y109, zlb_y111, zlb_y114, zlb_y108], 0, []),
  (45, [zlb_x0, zlb_x12, zlb_x13, zlb_x35, zlb_x15, zlb_x23, zlb_x17], zlb_q75, 2, []),
  (45, [zlb_x0, zlb_x12, zlb_x13, zlb_x35, zlb_x15, zlb_x23, zlb_x18], [zlb_y1, zlb_y109, zlb_y111, zlb_y106, zlb_y116], 0, []),
  (45, [zlb_x0, zlb_x12, zlb_x13, zlb_x35, zlb_x15, zlb_x23, zlb_x10], [zlb_y0, zlb_y1, zlb_y109, zlb_y111, zlb_y106, zlb_y108, zlb_y9], 0, []),
  (45, [zlb_x0, zlb_x12, zlb_x13, zlb_x35, zlb_x15, zlb_x24, zlb_x8], zlb_q76, 2, []),
  (45, [zlb_x0, zlb_x12, zlb_x13, zlb_x35, zlb_x15, zlb_x24, zlb_x9], zlb_q76, 2, []),
  (45, [zlb_x0, zlb_x12, zlb_x13, zlb_x35, zlb_x15, zlb_x24, zlb_x17], [zlb_y1, zlb_y109, zlb_y110, zlb_y115, zlb_y108], 0, []),
  (45, [zlb_x0, zlb_x12, zlb_x13, zlb_x35, zlb_x15, zlb_x24, zlb_x18], [zlb_y1, zlb_y109, zlb_y110, zlb_y107, zlb_y116], 0, []),
  (45, [zlb_x0, zlb_x12, zlb_x13, zlb_x35, zlb_x15, zlb_x24, zlb_x10], [zlb_y0, zlb_y1, zlb_y109, zlb_y110, zlb_y107, zlb_y108, zlb_y9], 0, []),
  (45, [zlb_x0, zlb_x12, zlb_x13, zlb_x35, zlb_x15, zlb_x25, zlb_x8], [zlb_y1, zlb_y112, zlb_y113, zlb_y106, zlb_y107], 0, []),
  (45, [zlb_x0, zlb_x12, zlb_x13, zlb_x35, zlb_x15, zlb_x25, zlb_x9], [zlb_y1, zlb_y112, zlb_y105, zlb_y114, zlb_y107], 0, []),
  (45, [zlb_x0, zlb_x12, zlb_x13, zlb_x35, zlb_x15, zlb_x25, zlb_x17], [zlb_y1, zlb_y112, zlb_y105, zlb_y106, zlb_y115], 0, []),
  (45, [zlb_x0, zlb_x12, zlb_x13, zlb_x35, zlb_x15, zlb_x25, zlb_x18], [zlb_y0, zlb_y1, zlb_y112, zlb_y105, zlb_y106, zlb_y107, zlb_y7], 1, []),
  (45, [zlb_x0, zlb_x12, zlb_x13, zlb_x35, zlb_x15, zlb_x25, zlb_x10], [zlb_y0, zlb_y1, zlb_y112, zlb_y105, zlb_y106, zlb_y107, zlb_y9], 0, []),
  (45, [zlb_x0, zlb_x12, zlb_x13, zlb_x35, zlb_x15, zlb_x26, zlb_x8], [zlb_y1, zlb_y111, zlb_y113, zlb_y106, zlb_y108], 0, []),
  (45, [zlb_x0, zlb_x12, zlb_x13, zlb_x35, zlb_x15, zlb_x26, zlb_x9], [zlb_y1, zlb_y111, zlb_y105, zlb_y114, zlb_y108], 0, []),
  (45, [zlb_x0, zlb_x12, zlb_x13, zlb_x35, zlb_x15, zlb_x26, zlb_x17], [zlb_y0, zlb_y1, zlb_y111, zlb_y105, zlb_y106, zlb_y108, zlb_y7], 1, []),
  (45, [zlb_x0, zlb_x12, zlb_x13, zlb_x35, zlb_x15, zlb_x26, zlb_x18], [zlb_y1, zlb_y111, zlb_y105, zlb_y106, zlb_y116], 0, []),
  (45, [zlb_x0, zlb_x12, zlb_x13, zlb_x35, zlb_x15, zlb_x26, zlb_x10], [zlb_y0, zlb_y1, zlb_y111, zlb_y105, zlb_y106, zlb_y108, zlb_y9], 0, []),
  (45, [zlb_x0, zlb_x12, zlb_x13, zlb_x35, zlb_x15, zlb_x27, zlb_x8], [zlb_y1, zlb_y110, zlb_y113, zlb_y107, zlb_y108], 0, []),
  (45, [zlb_x0, zlb_x12, zlb_x13, zlb_x35, zlb_x15, zlb_x27, zlb_x9], [zlb_y0, zlb_y1, zlb_y110, zlb_y105, zlb_y107, zlb_y108, zlb_y7], 1, []),
  (45, [zlb_x0, zlb_x12, zlb_x13, zlb_x35, zlb_x15, zlb_x27, zlb_x17], [zlb_y1, zlb_y110, zlb_y105, zlb_y115, zlb_y108], 0, []),
  (45, [zlb_x0, zlb_x12, zlb_x13, zlb_x35, zlb_x15, zlb_x27, zlb_x18], [zlb_y1, zlb_y110, zlb_y105, zlb_y107, zlb_y116], 0, []),
  (45, [zlb_x0, zlb_x12, zlb_x13, zlb_x35, zlb_x15, zlb_x27, zlb_x10], [zlb_y0, zlb_y1, zlb_y110, zlb_y105, zlb_y107, zlb_y108, zlb_y9], 0, []),
  (45, [zlb_x0, zlb_x12, zlb_x13, zlb_x35, zlb_x15, zlb_x28, zlb_x8], [zlb_y0, zlb_y1, zlb_y109, zlb_y106, zlb_y107, zlb_y108, zlb_y7], 1, []),
  (45, [zlb_x0, zlb_x12, zlb_x13, zlb_x35, zlb_x15, zlb_x28, zlb_x9], [zlb_y1, zlb_y109, zlb_y114, zlb_y107, zlb_y108], 0, []),
  (45, [zlb_x0, zlb_x12, zlb_x13, zlb_x35, zlb_x15, zlb_x28, zlb_x17], [zlb_y1, zlb_y109, zlb_y106, zlb_y115, zlb_y108], 0, []),
  (45, [zlb_x0, zlb_x12, zlb_x13, zlb_x35, zlb_x15, zlb_x28, zlb_x18], [zlb_y1, zlb_y109, zlb_y106, zlb_y107, zlb_y116], 0, []),
  (45, [zlb_x0, zlb_x12, zlb_x13, zlb_x35, zlb_x15, zlb_x28, zlb_x10], [zlb_y0, zlb_y1, zlb_y109, zlb_y106, zlb_y107, zlb_y108, zlb_y9], 0, []),
  (45, [zlb_x0, zlb_x12, zlb_x13, zlb_x35, zlb_x15, zlb_x29, zlb_x8], [zlb_y1, zlb_y113, zlb_y106, zlb_y107, zlb_y108], 0, []),
  (45, [zlb_x0, zlb_x12, zlb_x13, zlb_x35, zlb_x15, zlb_x29, zlb_x9], [zlb_y1, zlb_y105, zlb_y114, zlb_y107, zlb_y108], 0, []),
  (45, [zlb_x0, zlb_x12, zlb_x13, zlb_x35, zlb_x15, zlb_x29, zlb_x17], [zlb_y1, zlb_y105, zlb_y106, zlb_y115, zlb_y108], 0, []),
  (45, [zlb_x0, zlb_x12, zlb_x13, zlb_x35, zlb_x15, zlb_x29, zlb_x18], [zlb_y1, zlb_y105, zlb_y106, zlb_y107, zlb_y116], 0, []),
  (45, [zlb_x0, zlb_x12, zlb_x13, zlb_x35, zlb_x15, zlb_x29, zlb_x10], [zlb_y0, zlb_y1, zlb_y105, zlb_y106, zlb_y107, zlb_y108, zlb_y9], 0, [])]) (sp := [(3, 5), (45, 6)]) (fu := 54) (fa_cons (vUq (fA3 0) (by decide)) (fa_cons (vUq tA26 (by decide)) (fa_cons (vUq tA27 (by decide)) (fa_cons (vUq tA28 (by decide)) (fa_cons (vUq tA29 (by decide)) (fa_cons (vUq tA30 (by decide)) (fa_cons (vUq (fA0 0) (by decide)) (fa_cons (vUq tA35 (by decide)) (fa_cons (vUq tA36 (by decide)) (fa_cons (vUq tA8 (by decide)) (fa_cons (vUq tA37 (by decide)) (fa_cons (vUq tA38 (by decide)) (fa_cons (vUq tA13 (by decide)) (fa_cons (vUq tA14 (by decide)) (fa_cons (vUq tA39 (by decide)) (fa_cons (vUq tA40 (by decide)) (fa_cons (vUq tA41 (by decide)) (fa_cons (vUq tA42 (by decide)) (fa_cons (vUq tA43 (by decide)) (fa_cons (vUq tA45 (by decide)) (fa_cons (vUq tA46 (by decide)) (fa_cons (vUq tA47 (by decide)) (fa_cons (vUq tA48 (by decide)) (fa_cons (vUq tA50 (by decide)) (fa_cons (vUq tA19 (by decide)) (fa_cons (vUq tA0 (by decide)) (fa_cons (vUq tA20 (by decide)) (fa_cons (vUq tA51 (by decide)) (fa_cons (vUq tA52 (by decide)) (fa_cons (vUq tA21 (by decide)) (fa_cons (vUq tA22 (by decide)) (fa_cons (vUq tA53 (by decide)) (fa_cons (vUq tA54 (by decide)) (fa_cons (vUq tA55 (by decide)) (fa_cons (vUq tA56 (by decide)) (fa_cons (vUq tA57 (by decide)) (fa_cons (vUq tA58 (by decide)) (fa_cons (vUq tA59 (by decide)) (fa_cons (vUq tA60 (by decide)) (fa_cons (vUq tA61 (by decide)) (fa_cons (vUq tA62 (by decide)) (fa_cons (vUq tA23 (by decide)) (fa_cons (vUq tA24 (by decide)) (fa_cons (vUq tA63 (by decide)) (fa_cons (vUq tA64 (by decide)) (fa_cons (vUq tA65 (by decide)) (fa_cons (vUq tA66 (by decide)) (fa_cons (vUq tA67 (by decide)) (fa_cons (vUq tA68 (by decide)) (fa_cons (vUq tA69 (by decide)) (fa_cons (vUq tA70 (by decide)) (fa_cons (vUq tA71 (by decide)) (fa_cons (vUq tA72 (by decide)) (fa_cons (vUq tA73 (by decide)) (fa_cons (vUq tA74 (by decide)) (fa_cons (vUq tA75 (by decide)) (fa_cons (vUq tA76 (by decide)) (fa_cons (vUq tA77 (by decide)) (fa_cons (vUq tA78 (by decide)) (fa_cons (vUq tA79 (by decide)) (fa_cons (vUq tA80 (by decide)) (fa_cons (vUq tA81 (by decide)) (fa_cons (vUq tA82 (by decide)) (fa_cons (vUq tA83 (by decide)) (fa_cons (vUq tA84 (by decide)) (fa_cons (vUq tA85 (by decide)) (fa_cons (vUq tA86 (by decide)) (fa_cons (vUq tA87 (by decide)) (fa_cons (vUq tA88 (by decide)) (fa_cons (vUq tA89 (by decide)) (fa_cons (vUq tA90 (by decide)) (fa_cons (vUq tA91 (by decide)) (fa_cons (vUq tA92 (by decide)) (fa_cons (vUq tA93 (by decide)) (fa_cons (vUq tA94 (by decide)) (fa_cons (vUq tA95 (by decide)) (fa_cons (vUq tA96 (by decide)) (fa_cons (vUq tA97 (by decide)) (fa_cons (vUq tA98 (by decide)) (fa_cons (vUq tA99 (by decide)) (fa_cons (vUq tA100 (by decide)) (fa_cons (vUq tA101 (by decide)) (fa_cons (vUq tA102 (by decide)) (fa_cons (vUq tA103 (by decide)) (fa_cons (vUq tA104 (by decide)) (fa_nil)))))))))))))))))))))))))))))))))))))))))))))))))))))))))))))))))))))))))))))))))))))) (by decide +kernel)
/-- X12_readClause -/
def tA194c : aCt := (186, [aR [314]], [zlb_y0, zlb_y104, zlb_y20, zlb_y13, zlb_y1, zlb_y14, zlb_y15], [(none, [(lLo, lHi)], [zlb_y4]), (none, [(lLo, lHi)], ([zlb_y104, zlb_y13, zlb_y21, zlb_y0, zlb_y14, zlb_y15] ++ ([] ++ fkF 1))), (none, [(lLo, lHi)], [zlb_y20, zlb_y13, zlb_y117, zlb_y0, zlb_y14, zlb_y15, zlb_y105, zlb_y106, zlb_y107, zlb_y108]), (none, [(lLo, lHi)], [zlb_y104, zlb_y20, zlb_y18, zlb_y0, zlb_y14, zlb_y15])], [(314, 10, 12), (314, 28, 30), (314, 31, 32), (319, 0, 2), (321, 32, 36), (323, 0, 2)])
set_option maxRecDepth 100000 in
theorem tA194 : vC tS tRA jM 12 tA194c := chkF_ok (D := 11) (hst := jM_st (by decide +kernel)) (T := [(fA0c 0), tA0c, tA25c, tA193c, tA121c]) (N := []) (sp := []) (fu := 59) (fa_cons (vUq (fA0 0) (by decide)) (fa_cons (vUq tA0 (by decide)) (fa_cons (vUq tA25 (by decide)) (fa_cons (vUq tA193 (by decide)) (fa_cons (vUq tA121 (by decide)) (fa_nil)))))) (by decide +kernel)
/-- X12_readClause -/
def tA195c : aCt := (186, [aR [314]], [zlb_y0, zlb_y91, zlb_y21, zlb_y13, zlb_y1, zlb_y14, zlb_y15], [(none, [(lLo, lHi)], [zlb_y4]), (none, [(lLo, lHi)], [zlb_y91, zlb_y13, zlb_y12, zlb_y0, zlb_y14, zlb_y15, zlb_y27, zlb_y28]), (none, [(lLo, lHi)], [zlb_y21, zlb_y13, zlb_y104, zlb_y0, zlb_y14, zlb_y15, zlb_y92, zlb_y93, zlb_y94, zlb_y95]), (none, [(lLo, lHi)], [zlb_y91, zlb_y21, zlb_y18, zlb_y0, zlb_y14, zlb_y15])], [(314, 10, 12), (314, 28, 30), (314, 31, 32), (319, 0, 2), (321, 28, 32), (323, 2, 4)])
set_option maxRecDepth 100000 in
theorem tA195 : vC tS tRA jM 12 tA195c := chkF_ok (D := 11) (hst := jM_st (by decide +kernel)) (T := [(fA0c 0), tA0c, tA127c, tA182c, tA121c]) (N := []) (sp := []) (fu := 59) (fa_cons (vUq (fA0 0) (by decide)) (fa_cons (vUq tA0 (by decide)) (fa_cons (vUq tA127 (by decide)) (fa_cons (vUq tA182 (by decide)) (fa_cons (vUq tA121 (by decide)) (fa_nil)))))) (by decide +kernel)
/-- X12_readClause -/
def tA196c : aCt := (186, [aR [314]], [zlb_y0, zlb_y78, zlb_y12, zlb_y13, zlb_y1, zlb_y14, zlb_y15], [(none, [(lLo, lHi)], [zlb_y4]), (none, [(lLo, lHi)], [zlb_y78, zlb_y13, zlb_y16, zlb_y0, zlb_y14, zlb_y15, zlb_y2, zlb_y3]), (none, [(lLo, lHi)], [zlb_y12, zlb_y13, zlb_y91, zlb_y0, zlb_y14, zlb_y15, zlb_y79, zlb_y80, zlb_y81, zlb_y82]), (none, [(lLo, lHi)], [zlb_y78, zlb_y12, zlb_y18, zlb_y0, zlb_y14, zlb_y15])], [(314, 10, 12), (314, 28, 30), (314, 31, 32), (319, 0, 2), (321, 24, 28), (323, 4, 6)])
set_option maxRecDepth 100000 in
theorem tA196 : vC tS tRA jM 12 tA196c := chkF_ok (D := 11) (hst := jM_st (by decide +kernel)) (T := [(fA0c 0), tA0c, tA134c, tA171c, tA121c]) (N := []) (sp := []) (fu := 59) (fa_cons (vUq (fA0 0) (by decide)) (fa_cons (vUq tA0 (by decide)) (fa_cons (vUq tA134 (by decide)) (fa_cons (vUq tA171 (by decide)) (fa_cons (vUq tA121 (by decide)) (fa_nil)))))) (by decide +kernel)
/-- X12_readClause -/
def tA197c : aCt := (186, [aR [314]], [zlb_y0, zlb_y65, zlb_y16, zlb_y13, zlb_y1, zlb_y14, zlb_y15], [(none, [(lLo, lHi)], [zlb_y4]), (none, [(lLo, lHi)], [zlb_y65, zlb_y13, zlb_y52, zlb_y0, zlb_y14, zlb_y15, zlb_y46, zlb_y47]), (none, [(lLo, lHi)], [zlb_y16, zlb_y13, zlb_y78, zlb_y0, zlb_y14, zlb_y15, zlb_y66, zlb_y67, zlb_y68, zlb_y69]), (none, [(lLo, lHi)], [zlb_y65, zlb_y16, zlb_y18, zlb_y0, zlb_y14, zlb_y15])], [(314, 10, 12), (314, 28, 30), (314, 31, 32), (319, 0, 2), (321, 20, 24), (323, 6, 8)])
set_option maxRecDepth 100000 in
theorem tA197 : vC tS tRA jM 12 tA197c := chkF_ok (D := 11) (hst := jM_st (by decide +kernel)) (T := [(fA0c 0), tA0c, tA143c, tA160c, tA121c]) (N := []) (sp := []) (fu := 59) (fa_cons (vUq (fA0 0) (by decide)) (fa_cons (vUq tA0 (by decide)) (fa_cons (vUq tA143 (by decide)) (fa_cons (vUq tA160 (by decide)) (fa_cons (vUq tA121 (by decide)) (fa_nil)))))) (by decide +kernel)
/-- X12_readClause -/
def tA198c : aCt := (186, [aR [314]], [zlb_y0, zlb_y45, zlb_y52, zlb_y13, zlb_y1, zlb_y14, zlb_y15], [(none, [(lLo, lHi)], [zlb_y4]), (none, [(lLo, lHi)], [zlb_y52, zlb_y13, zlb_y65, zlb_y0, zlb_y14, zlb_y15, zlb_y53, zlb_y54, zlb_y55, zlb_y56]), (none, [(lLo, lHi)], [zlb_y45, zlb_y52, zlb_y18, zlb_y0, zlb_y14, zlb_y15])], [(314, 10, 12), (314, 28, 29), (314, 31, 32), (319, 0, 2), (321, 16, 20)])
set_option maxRecDepth 100000 in
theorem tA198 : vC tS tRA jM 12 tA198c := chkF_ok (D := 11) (hst := jM_st (by decide +kernel)) (T := [(fA0c 0), tA0c, tA149c, tA121c]) (N := []) (sp := []) (fu := 57) (fa_cons (vUq (fA0 0) (by decide)) (fa_cons (vUq tA0 (by decide)) (fa_cons (vUq tA149 (by decide)) (fa_cons (vUq tA121 (by decide)) (fa_nil))))) (by decide +kernel)
/-- X12_readClause -/
def tA199c : aCt := (186, [aR [314]], [zlb_y0, zlb_y104, zlb_y20, zlb_y18, zlb_y1, zlb_y14, zlb_y15], [(none, [(lLo, lHi)], [zlb_y4]), (none, [(lLo, lHi)], ([zlb_y104, zlb_y18, zlb_y21, zlb_y0, zlb_y14, zlb_y15] ++ ([] ++ fkF 1))), (none, [(lLo, lHi)], [zlb_y20, zlb_y18, zlb_y117, zlb_y0, zlb_y14, zlb_y15, zlb_y105, zlb_y106, zlb_y107, zlb_y108])], [(314, 10, 12), (314, 28, 30), (321, 32, 36), (323, 0, 2)])
set_option maxRecDepth 100000 in
theorem tA199 : vC tS tRA jM 12 tA199c := chkF_ok (D := 11) (hst := jM_st (by decide +kernel)) (T := [(fA0c 0), tA0c, tA25c, tA193c]) (N := []) (sp := []) (fu := 59) (fa_cons (vUq (fA0 0) (by decide)) (fa_cons (vUq tA0 (by decide)) (fa_cons (vUq tA25 (by decide)) (fa_cons (vUq tA193 (by decide)) (fa_nil))))) (by decide +kernel)
/-- X12_readClause -/
def tA200c : aCt := (186, [aR [314]], [zlb_y0, zlb_y91, zlb_y21, zlb_y18, zlb_y1, zlb_y14, zlb_y15], [(none, [(lLo, lHi)], [zlb_y4]), (none, [(lLo, lHi)], [zlb_y91, zlb_y18, zlb_y12, zlb_y0, zlb_y14, zlb_y15, zlb_y27, zlb_y28]), (none, [(lLo, lHi)], [zlb_y21, zlb_y18, zlb_y104, zlb_y0, zlb_y14, zlb_y15, zlb_y92, zlb_y93, zlb_y94, zlb_y95])], [(314, 10, 12), (314, 28, 30), (321, 28, 32), (323, 2, 4)])
set_option maxRecDepth 100000 in
theorem tA200 : vC tS tRA jM 12 tA200c := chkF_ok (D := 11) (hst := jM_st (by decide +kernel)) (T := [(fA0c 0), tA0c, tA127c, tA182c]) (N := []) (sp := []) (fu := 59) (fa_cons (vUq (fA0 0) (by decide)) (fa_cons (vUq tA0 (by decide)) (fa_cons (vUq tA127 (by decide)) (fa_cons (vUq tA182 (by decide)) (fa_nil))))) (by decide +kernel)
/-- X12_readClause -/
def tA201c : aCt := (186, [aR [314]], [zlb_y0, zlb_y78, zlb_y12, zlb_y18, zlb_y1, zlb_y14, zlb_y15], [(none, [(lLo, lHi)], [zlb_y4]), (none, [(lLo, lHi)], [zlb_y78, zlb_y18, zlb_y16, zlb_y0, zlb_y14, zlb_y15, zlb_y2, zlb_y3]), (none, [(lLo, lHi)], [zlb_y12, zlb_y18, zlb_y91, zlb_y0, zlb_y14, zlb_y15, zlb_y79, zlb_y80, zlb_y81, zlb_y82])], [(314, 10, 12), (314, 28, 30), (321, 24, 28), (323, 4, 6)])
set_option maxRecDepth 100000 in
theorem tA201 : vC tS tRA jM 12 tA201c := chkF_ok (D := 11) (hst := jM_st (by decide +kernel)) (T := [(fA0c 0), tA0c, tA134c, tA171c]) (N := []) (sp := []) (fu := 59) (fa_cons (vUq (fA0 0) (by decide)) (fa_cons (vUq tA0 (by decide)) (fa_cons (vUq tA134 (by decide)) (fa_cons (vUq tA171 (by decide)) (fa_nil))))) (by decide +kernel)
/-- X12_readClause -/
def tA202c : aCt := (186, [aR [314]], [zlb_y0, zlb_y65, zlb_y16, zlb_y18, zlb_y1, zlb_y14, zlb_y15], [(none, [(lLo, lHi)], [zlb_y4]), (none, [(lLo, lHi)], [zlb_y65, zlb_y18, zlb_y52, zlb_y0, zlb_y14, zlb_y15, zlb_y46, zlb_y47]), (none, [(lLo, lHi)], [zlb_y16, zlb_y18, zlb_y78, zlb_y0, zlb_y14, zlb_y15, zlb_y66, zlb_y67, zlb_y68, zlb_y69])], [(314, 10, 12), (314, 28, 30), (321, 20, 24), (323, 6, 8)])
set_option maxRecDepth 100000 in
theorem tA202 : vC tS tRA jM 12 tA202c := chkF_ok (D := 11) (hst := jM_st (by decide +kernel)) (T := [(fA0c 0), tA0c, tA143c, tA160c]) (N := []) (sp := []) (fu := 59) (fa_cons (vUq (fA0 0) (by decide)) (fa_cons (vUq tA0 (by decide)) (fa_cons (vUq tA143 (by decide)) (fa_cons (vUq tA160 (by decide)) (fa_nil))))) (by decide +kernel)
/-- X12_readClause -/
def tA203c : aCt := (186, [aR [314]], [zlb_y0, zlb_y45, zlb_y52, zlb_y18, zlb_y1, zlb_y14, zlb_y15], [(none, [(lLo, lHi)], [zlb_y4]), (none, [(lLo, lHi)], [zlb_y52, zlb_y18, zlb_y65, zlb_y0, zlb_y14, zlb_y15, zlb_y53, zlb_y54, zlb_y55, zlb_y56])], [(314, 10, 12), (314, 28, 29), (321, 16, 20)])
set_option maxRecDepth 100000 in
theorem tA203 : vC tS tRA jM 12 tA203c := chkF_ok (D := 11) (hst := jM_st (by decide +kernel)) (T := [(fA0c 0), tA0c, tA149c]) (N := []) (sp := []) (fu := 57) (fa_cons (vUq (fA0 0) (by decide)) (fa_cons (vUq tA0 (by decide)) (fa_cons (vUq tA149 (by decide)) (fa_nil)))) (by decide +kernel)
/-- X12_readItems -/
def tA204c : aCt := (185, [aR [314], aI 101 101, aR [321], aI 36 36, aR [1003]], zlb_q0, [(none, zlb_l5, [zlb_y0, zlb_y118, zlb_y119, zlb_y120, zlb_y121]), (none, zlb_l5, [zlb_y4])], [(314, 10, 12), (321, 36, 40)])
set_option maxRecDepth 100000 in
theorem tA204 : vC tS tRA jM 11 tA204c := chkF_ok (D := 10) (hst := jM_st (by decide +kernel)) (T := [(fA3c 0), tA26c, tA27c, tA28c, tA29c, tA30c, (fA0c 0), tA35c, tA36c, tA8c, tA37c, tA38c, tA13c, tA14c, tA39c, tA40c, tA41c, tA42c, tA43c, tA45c, tA46c, tA47c, tA48c, tA50c, tA19c, tA0c, tA20c, tA51c, tA52c, tA21c, tA22c, tA53c, tA54c, tA55c, tA56c, tA57c, tA58c, tA59c, tA60c, tA61c, tA62c, tA23c, tA24c, tA63c, tA64c, tA65c, tA66c, tA67c, tA68c, tA69c, tA70c, tA71c, tA72c, tA73c, tA74c, tA75c, tA76c, tA77c, tA78c, tA79c, tA80c, tA81c, tA82c, tA83c, tA84c, tA85c, tA86c, tA87c, tA88c, tA89c, tA90c, tA91c, tA92c, tA93c, tA94c, tA95c, tA96c, tA97c, tA98c, tA99c, tA100c, tA101c, tA102c, tA103c, tA104c]) (N := [(3, [zlb_x0, zlb_x12, zlb_x13, zlb_x36, zlb_x15, zlb_x5], zlb_q0, 9, []),
  (3, [zlb_x0, zlb_x12, zlb_x13, zlb_x36, zlb_x15, zlb_x6], [zlb_y0, zlb_y1, zlb_y122], 8, []),
  (3, [zlb_x0, zlb_x12, zlb_x13, zlb_x36, zlb_x15, zlb_x7], [zlb_y0, zlb_y1, zlb_y122, zlb_y123], 7, []),
  (3, [zlb_x0, zlb_x12, zlb_x13, zlb_x36, zlb_x15, zlb_x11], [zlb_y0, zlb_y1, zlb_y122, zlb_y123, zlb_y124], 6, []),
  (3, [zlb_x0, zlb_x12, zlb_x13, zlb_x36, zlb_x15, zlb_x16], zlb_q77, 5, []),
  (45, [zlb_x0, zlb_x12, zlb_x13, zlb_x36, zlb_x15, zlb_x5, zlb_x8], zlb_q78, 4, []),
  (45, [zlb_x0, zlb_x12, zlb_x13, zlb_x36, zlb_x15, zlb_x5, zlb_x9], zlb_q78, 4, []),
  (45, [zlb_x0, zlb_x12, zlb_x13, zlb_x36, zlb_x15, zlb_x5, zlb_x17], zlb_q78, 4, []),
  (45, [zlb_x0, zlb_x12, zlb_x13, zlb_x36, zlb_x15, zlb_x5, zlb_x18], zlb_q78, 4, []),
  (45, [zlb_x0, zlb_x12, zlb_x13, zlb_x36, zlb_x15, zlb_x5, zlb_x10], zlb_q77, 0, []),
  (45, [zlb_x0, zlb_x12, zlb_x13, zlb_x36, zlb_x15, zlb_x6, zlb_x8], [zlb_y1, zlb_y123, zlb_y124, zlb_y125, zlb_y126], 0, []),
  (45, [zlb_x0, zlb_x12, zlb_x13, zlb_x36, zlb_x15, zlb_x6, zlb_x9], zlb_q79, 3, []),
  (45, [zlb_x0, zlb_x12, zlb_x13, zlb_x36, zlb_x15, zlb_x6, zlb_x17], zlb_q79, 3, []),
  (45, [zlb_x0, zlb_x12, zlb_x13, zlb_x36, zlb_x15, zlb_x6, zlb_x18], zlb_q79, 3, []),
  (45, [zlb_x0, zlb_x12, zlb_x13, zlb_x36, zlb_x15, zlb_x6, zlb_x10], [zlb_y0, zlb_y1, zlb_y123, zlb_y124, zlb_y125, zlb_y118, zlb_y9], 0, []),
  (45, [zlb_x0, zlb_x12, zlb_x13, zlb_x36, zlb_x15, zlb_x7, zlb_x8], zlb_q80, 3, []),
  (45, [zlb_x0, zlb_x12, zlb_x13, zlb_x36, zlb_x15, zlb_x7, zlb_x9], [zlb_y1, zlb_y122, zlb_y124, zlb_y125, zlb_y127], 0, []),
  (45, [zlb_x0, zlb_x12, zlb_x13, zlb_x36, zlb_x15, zlb_x7, zlb_x17], zlb_q80, 3, []),
  (45, [zlb_x0, zlb_x12, zlb_x13, zlb_x36, zlb_x15, zlb_x7, zlb_x18], zlb_q80, 3, []),
  (45, [zlb_x0, zlb_x12, zlb_x13, zlb_x36, zlb_x15, zlb_x7, zlb_x10], [zlb_y0, zlb_y1, zlb_y122, zlb_y124, zlb_y125, zlb_y119, zlb_y9], 0, []),
  (45, [zlb_x0, zlb_x12, zlb_x13, zlb_x36, zlb_x15, zlb_x16, zlb_x8], zlb_q81, 3, []),
  (45, [zlb_x0, zlb_x12, zlb_x13, zlb_x36, zlb_x15, zlb_x16, zlb_x9], zlb_q81, 3, []),
  (45, [zlb_x0, zlb_x12, zlb_x13, zlb_x36, zlb_x15, zlb_x16, zlb_x17], [zlb_y1, zlb_y122, zlb_y123, zlb_y125, zlb_y128], 0, []),
  (45, [zlb_x0, zlb_x12, zlb_x13, zlb_x36, zlb_x15, zlb_x16, zlb_x18], zlb_q81, 3, []),
  (45, [zlb_x0, zlb_x12, zlb_x13, zlb_x36, zlb_x15, zlb_x16, zlb_x10], [zlb_y0, zlb_y1, zlb_y122, zlb_y123, zlb_y125, zlb_y120, zlb_y9], 0, []),
  (45, [zlb_x0, zlb_x12, zlb_x13, zlb_x36, zlb_x15, zlb_x19, zlb_x8], zlb_q82, 3, []),
  (45, [zlb_x0, zlb_x12, zlb_x13, zlb_x36, zlb_x15, zlb_x19, zlb_x9], zlb_q82, 3, []),
  (45, [zlb_x0, zlb_x12, zlb_x13, zlb_x36, zlb_x15, zlb_x19, zlb_x17], zlb_q82, 3, []),
  (45, [zlb_x0, zlb_x12, zlb_x13, zlb_x36, zlb_x15, zlb_x19, zlb_x18], [zlb_y1, zlb_y122, zlb_y123, zlb_y124, zlb_y129], 0, []),
  (45, [zlb_x0, zlb_x12, zlb_x13, zlb_x36, zlb_x15, zlb_x19, zlb_x10], [zlb_y0, zlb_y1, zlb_y122, zlb_y123, zlb_y124, zlb_y121, zlb_y9], 0, []),
  (45, [zlb_x0, zlb_x12, zlb_x13, zlb_x36, zlb_x15, zlb_x11, zlb_x8], [zlb_y1, zlb_y124, zlb_y125, zlb_y126, zlb_y119], 0, []),
  (45, [zlb_x0, zlb_x12, zlb_x13, zlb_x36, zlb_x15, zlb_x11, zlb_x9], [zlb_y1, zlb_y124, zlb_y125, zlb_y118, zlb_y127], 0, []),
  (45, [zlb_x0, zlb_x12, zlb_x13, zlb_x36, zlb_x15, zlb_x11, zlb_x17], zlb_q83, 2, []),
  (45, [zlb_x0, zlb_x12, zlb_x13, zlb_x36, zlb_x15, zlb_x11, zlb_x18], zlb_q83, 2, []),
  (45, [zlb_x0, zlb_x12, zlb_x13, zlb_x36, zlb_x15, zlb_x11, zlb_x10], [zlb_y0, zlb_y1, zlb_y124, zlb_y125, zlb_y118, zlb_y119, zlb_y9], 0, []),
  (45, [zlb_x0, zlb_x12, zlb_x13, zlb_x36, zlb_x15, zlb_x20, zlb_x8], [zlb_y1, zlb_y123, zlb_y125, zlb_y126, zlb_y120], 0, []),
  (45, [zlb_x0, zlb_x12, zlb_x13, zlb_x36, zlb_x15, zlb_x20, zlb_x9], zlb_q84, 2, []),
  (45, [zlb_x0, zlb_x12, zlb_x13, zlb_x36, zlb_x15, zlb_x20, zlb_x17], [zlb_y1, zlb_y123, zlb_y125, zlb_y118, zlb_y128], 0, []),
  (45, [zlb_x0, zlb_x12, zlb_x13, zlb_x36, zlb_x15, zlb_x20, zlb_x18], zlb_q84, 2, []),
  (45, [zlb_x0, zlb_x12, zlb_x13, zlb_x36, zlb_x15, zlb_x20, zlb_x10], [zlb_y0, zlb_y1, zlb_y123, zlb_y125, zlb_y118, zlb_y120, zlb_y9], 0, []),
  (45, [zlb_x0, zlb_x12, zlb_x13, zlb_x36, zlb_x15, zlb_x21, zlb_x8], [zlb_y1, zlb_y123, zlb_y124, zlb_y126, zlb_y121], 0, []),
  (45, [zlb_x0, zlb_x12, zlb_x13, zlb_x36, zlb_x15, zlb_x21, zlb_x9], zlb_q85, 2, []),
  (45, [zlb_x0, zlb_x12, zlb_x13, zlb_x36, zlb_x15, zlb_x21, zlb_x17], zlb_q85, 2, []),
  (45, [zlb_x0, zlb_x12, zlb_x13, zlb_x36, zlb_x15, zlb_x21, zlb_x18], [zlb_y1, zlb_y123, zlb_y124, zlb_y118, zlb_y129], 0, []),
  (45, [zlb_x0, zlb_x12, zlb_x13, zlb_x36, zlb_x15, zlb_x21, zlb_x10], [zlb_y0, zlb_y1, zlb_y123, zlb_y124, zlb_y118, zlb_y121, zlb_y9], 0, []),
  (45, [zlb_x0, zlb_x12, zlb_x13, zlb_x36, zlb_x15, zlb_x22, zlb_x8], zlb_q86, 2, []),
  (45, [zlb_x0, zlb_x12, zlb_x13, zlb_x36, zlb_x15, zlb_x22, zlb_x9], [zlb_y1, zlb_y122, zlb_y125, zlb_y127, zlb_y120], 0, []),
  (45, [zlb_x0, zlb_x12, zlb_x13, zlb_x36, zlb_x15, zlb_x22, zlb_x17], [zlb_y1, zlb_y122, zlb_y125, zlb_y119, zlb_y128], 0, []),
  (45, [zlb_x0, zlb_x12, zlb_x13, zlb_x36, zlb_x15, zlb_x22, zlb_x18], zlb_q86, 2, []),
  (45, [zlb_x0, zlb_x12, zlb_x13, zlb_x36, zlb_x15, zlb_x22, zlb_x10], [zlb_y0, zlb_y1, zlb_y122, zlb_y125, zlb_y119, zlb_y120, zlb_y9], 0, []),
  (45, [zlb_x0, zlb_x12, zlb_x13, zlb_x36, zlb_x15, zlb_x23, zlb_x8], zlb_q87, 2, []),
  (45, [zlb_x0, zlb_x12, zlb_x13, zlb_x36, zlb_x15, zlb_x23, zlb_x9], [zlb_y1, zlb_y122, zlb_y124, zlb_y127, zlb_y121], 0, []),
  (45, [zlb_x0, zlb_x12, zlb_x13, zlb_x36, zlb_x15, zlb_x23, zlb_x17], zlb_q87, 2, []),
  (45, [zlb_x0, zlb_x12, zlb_x13, zlb_x36, zlb_x15, zlb_x23, zlb_x18], [zlb_y1, zlb_y122, zlb_y124, zlb_y119, zlb_y129], 0, []),
  (45, [zlb_x0, zlb_x12, zlb_x13, zlb_x36, zlb_x15, zlb_x23, zlb_x10], [zlb_y0, zlb_y1, zlb_y122, zlb_y124, zlb_y119, zlb_y121, zlb_y9], 0, []),
  (45, [zlb_x0, zlb_x12, zlb_x13, zlb_x36, zlb_x15, zlb_x24, zlb_x8], zlb_q88, 2, []),
  (45, [zlb_x0, zlb_x12, zlb_x13, zlb_x36, zlb_x15, zlb_x24, zlb_x9], zlb_q88, 2, []),
  (45, [zlb_x0, zlb_x12, zlb_x13, zlb_x36, zlb_x15, zlb_x24, zlb_x17], [zlb_y1, zlb_y122, zlb_y123, zlb_y128, zlb_y121], 0, []),
  (45, [zlb_x0, zlb_x12, zlb_x13, zlb_x36, zlb_x15, zlb_x24, zlb_x18], [zlb_y1, zlb_y122, zlb_y123, zlb_y120, zlb_y129], 0, []),
  (45, [zlb_x0, zlb_x12, zlb_x13, zlb_x36, zlb_x15, zlb_x24, zlb_x10], [zlb_y0, zlb_y1, zlb_y122, zlb_y123, zlb_y120, zlb_y121, zlb_y9], 0, []),
  (45, [zlb_x0, zlb_x12, zlb_x13, zlb_x36, zlb_x15, zlb_x25, zlb_x8], [zlb_y1, zlb_y125, zlb_y126, zlb_y119, zlb_y120], 0, []),
  (45, [zlb_x0, zlb_x12, zlb_x13, zlb_x36, zlb_x15, zlb_x25, zlb_x9], [zlb_y1, zlb_y125, zlb_y118, zlb_y127, zlb_y120], 0, []),
  (45, [zlb_x0, zlb_x12, zlb_x13, zlb_x36, zlb_x15, zlb_x25, zlb_x17], [zlb_y1, zlb_y125, zlb_y118, zlb_y119, zlb_y128], 0, []),
  (45, [zlb_x0, zlb_x12, zlb_x13, zlb_x36, zlb_x15, zlb_x25, zlb_x18], [zlb_y0, zlb_y1, zlb_y125, zlb_y118, zlb_y119, zlb_y120, zlb_y7], 1, []),
  (45, [zlb_x0, zlb_x12, zlb_x13, zlb_x36, zlb_x15, zlb_x25, zlb_x10], [zlb_y0, zlb_y1, zlb_y125, zlb_y118, zlb_y119, zlb_y120, zlb_y9], 0, []),
  (45, [zlb_x0, zlb_x12, zlb_x13, zlb_x36, zlb_x15, zlb_x26, zlb_x8], [zlb_y1, zlb_y124, zlb_y126, zlb_y119, zlb_y121], 0, []),
  (45, [zlb_x0, zlb_x12, zlb_x13, zlb_x36, zlb_x15, zlb_x26, zlb_x9], [zlb_y1, zlb_y124, zlb_y118, zlb_y127, zlb_y121], 0, []),
  (45, [zlb_x0, zlb_x12, zlb_x13, zlb_x36, zlb_x15, zlb_x26, zlb_x17], [zlb_y0, zlb_y1, zlb_y124, zlb_y118, zlb_y119, zlb_y121, zlb_y7], 1, []),
  (45, [zlb_x0, zlb_x12, zlb_x13, zlb_x36, zlb_x15, zlb_x26, zlb_x18], [zlb_y1, zlb_y124, zlb_y118, zlb_y119, zlb_y129], 0, []),
  (45, [zlb_x0, zlb_x12, zlb_x13, zlb_x36, zlb_x15, zlb_x26, zlb_x10], [zlb_y0, zlb_y1, zlb_y124, zlb_y118, zlb_y119, zlb_y121, zlb_y9], 0, []),
  (45, [zlb_x0, zlb_x12, zlb_x13, zlb_x36, zlb_x15, zlb_x27, zlb_x8], [zlb_y1, zlb_y123, zlb_y126, zlb_y120, zlb_y121], 0, []),
  (45, [zlb_x0, zlb_x12, zlb_x13, zlb_x36, zlb_x15, zlb_x27, zlb_x9], [zlb_y0, zlb_y1, zlb_y123, zlb_y118, zlb_y120, zlb_y121, zlb_y7], 1, []),
  (45, [zlb_x0, zlb_x12, zlb_x13, zlb_x36, zlb_x15, zlb_x27, zlb_x17], [zlb_y1, zlb_y123, zlb_y118, zlb_y128, zlb_y121], 0, []),
  (45, [zlb_x0, zlb_x12, zlb_x13, zlb_x36, zlb_x15, zlb_x27, zlb_x18], [zlb_y1, zlb_y123, zlb_y118, zlb_y120, zlb_y129], 0, []),
  (45, [zlb_x0, zlb_x12, zlb_x13, zlb_x36, zlb_x15, zlb_x27, zlb_x10], [zlb_y0, zlb_y1, zlb_y123, zlb_y118, zlb_y120, zlb_y121, zlb_y9], 0, []),
  (45, [zlb_x0, zlb_x12, zlb_x13, zlb_x36, zlb_x15, zlb_x28, zlb_x8], [zlb_y0, zlb_y1, zlb_y122, zlb_y119, zlb_y120, zlb_y121, zlb_y7], 1, []),
  (45, [zlb_x0, zlb_x12, zlb_x13, zlb_x36, zlb_x15, zlb_x28, zlb_x9], [zlb_y1, zlb_y122, zlb_y127, zlb_y120, zlb_y121], 0, []),
  (45, [zlb_x0, zlb_x12, zlb_x13, zlb_x36, zlb_x15, zlb_x28, zlb_x17], [zlb_y1, zlb_y122, zlb_y119, zlb_y128, zlb_y121], 0, []),
  (45, [zlb_x0, zlb_x12, zlb_x13, zlb_x36, zlb_x15, zlb_x28, zlb_x18], [zlb_y1, zlb_y122, zlb_y119, zlb_y120, zlb_y129], 0, []),
  (45, [zlb_x0, zlb_x12, zlb_x13, zlb_x36, zlb_x15, zlb_x28, zlb_x10], [zlb_y0, zlb_y1, zlb_y122, zlb_y119, zlb_y120, zlb_y121, zlb_y9], 0, []),
  (45, [zlb_x0, zlb_x12, zlb_x13, zlb_x36, zlb_x15, zlb_x29, zlb_x8], [zlb_y1, zlb_y126, zlb_y119, zlb_y120, zlb_y121], 0, []),
  (45, [zlb_x0, zlb_x12, zlb_x13, zlb_x36, zlb_x15, zlb_x29, zlb_x9], [zlb_y1, zlb_y118, zlb_y127, zlb_y120, zlb_y121], 0, []),
  (45, [zlb_x0, zlb_x12, zlb_x13, zlb_x36, zlb_x15, zlb_x29, zlb_x17], [zlb_y1, zlb_y118, zlb_y119, zlb_y128, zlb_y121], 0, []),
  (45, [zlb_x0, zlb_x12, zlb_x13, zlb_x36, zlb_x15, zlb_x29, zlb_x18], [zlb_y1, zlb_y118, zlb_y119, zlb_y120, zlb_y129], 0, []),
  (45, [zlb_x0, zlb_x12, zlb_x13, zlb_x36, zlb_x15, zlb_x29, zlb_x10], [zlb_y0, zlb_y1, zlb_y118, zlb_y119, zlb_y120, zlb_y121, zlb_y9], 0, [])]) (sp := [(3, 5), (45, 6)]) (fu := 54) (fa_cons (vUq (fA3 0) (by decide)) (fa_cons (vUq tA26 (by decide)) (fa_cons (vUq tA27 (by decide)) (fa_cons (vUq tA28 (by decide)) (fa_cons (vUq tA29 (by decide)) (fa_cons (vUq tA30 (by decide)) (fa_cons (vUq (fA0 0) (by decide)) (fa_cons (vUq tA35 (by decide)) (fa_cons (vUq tA36 (by decide)) (fa_cons (vUq tA8 (by decide)) (fa_cons (vUq tA37 (by decide)) (fa_cons (vUq tA38 (by decide)) (fa_cons (vUq tA13 (by decide)) (fa_cons (vUq tA14 (by decide)) (fa_cons (vUq tA39 (by decide)) (fa_cons (vUq tA40 (by decide)) (fa_cons (vUq tA41 (by decide)) (fa_cons (vUq tA42 (by decide)) (fa_cons (vUq tA43 (by decide)) (fa_cons (vUq tA45 (by decide)) (fa_cons (vUq tA46 (by decide)) (fa_cons (vUq tA47 (by decide)) (fa_cons (vUq tA48 (by decide)) (fa_cons (vUq tA50 (by decide)) (fa_cons (vUq tA19 (by decide)) (fa_cons (vUq tA0 (by decide)) (fa_cons (vUq tA20 (by decide)) (fa_cons (vUq tA51 (by decide)) (fa_cons (vUq tA52 (by decide)) (fa_cons (vUq tA21 (by decide)) (fa_cons (vUq tA22 (by decide)) (fa_cons (vUq tA53 (by decide)) (fa_cons (vUq tA54 (by decide)) (fa_cons (vUq tA55 (by decide)) (fa_cons (vUq tA56 (by decide)) (fa_cons (vUq tA57 (by decide)) (fa_cons (vUq tA58 (by decide)) (fa_cons (vUq tA59 (by decide)) (fa_cons (vUq tA60 (by decide)) (fa_cons (vUq tA61 (by decide)) (fa_cons (vUq tA62 (by decide)) (fa_cons (vUq tA23 (by decide)) (fa_cons (vUq tA24 (by decide)) (fa_cons (vUq tA63 (by decide)) (fa_cons (vUq tA64 (by decide)) (fa_cons (vUq tA65 (by decide)) (fa_cons (vUq tA66 (by decide)) (fa_cons (vUq tA67 (by decide)) (fa_cons (vUq tA68 (by decide)) (fa_cons (vUq tA69 (by decide)) (fa_cons (vUq tA70 (by decide)) (fa_cons (vUq tA71 (by decide)) (fa_cons (vUq tA72 (by decide)) (fa_cons (vUq tA73 (by decide)) (fa_cons (vUq tA74 (by decide)) (fa_cons (vUq tA75 (by decide)) (fa_cons (vUq tA76 (by decide)) (fa_cons (vUq tA77 (by decide)) (fa_cons (vUq tA78 (by decide)) (fa_cons (vUq tA79 (by decide)) (fa_cons (vUq tA80 (by decide)) (fa_cons (vUq tA81 (by decide)) (fa_cons (vUq tA82 (by decide)) (fa_cons (vUq tA83 (by decide)) (fa_cons (vUq tA84 (by decide)) (fa_cons (vUq tA85 (by decide)) (fa_cons (vUq tA86 (by decide)) (fa_cons (vUq tA87 (by decide)) (fa_cons (vUq tA88 (by decide)) (fa_cons (vUq tA89 (by decide)) (fa_cons (vUq tA90 (by decide)) (fa_cons (vUq tA91 (by decide)) (fa_cons (vUq tA92 (by decide)) (fa_cons (vUq tA93 (by decide)) (fa_cons (vUq tA94 (by decide)) (fa_cons (vUq tA95 (by decide)) (fa_cons (vUq tA96 (by decide)) (fa_cons (vUq tA97 (by decide)) (fa_cons (vUq tA98 (by decide)) (fa_cons (vUq tA99 (by decide)) (fa_cons (vUq tA100 (by decide)) (fa_cons (vUq tA101 (by decide)) (fa_cons (vUq tA102 (by decide)) (fa_cons (vUq tA103 (by decide)) (fa_cons (vUq tA104 (by decide)) (fa_nil)))))))))))))))))))))))))))))))))))))))))))))))))))))))))))))))))))))))))))))))))))))) (by decide +kernel)
/-- X12_readClause -/
def tA205c : aCt := (186, [aR [314]], [zlb_y0, zlb_y117, zlb_y20, zlb_y13, zlb_y1, zlb_y14, zlb_y15], [(none, [(lLo, lHi)], [zlb_y4]), (none, [(lLo, lHi)], ([zlb_y117, zlb_y13, zlb_y21, zlb_y0, zlb_y14, zlb_y15] ++ ([] ++ fkF 1))), (none, [(lLo, lHi)], [zlb_y20, zlb_y13, zlb_y130, zlb_y0, zlb_y14, zlb_y15, zlb_y118, zlb_y119, zlb_y120, zlb_y121]), (none, [(lLo, lHi)], [zlb_y117, zlb_y20, zlb_y18, zlb_y0, zlb_y14, zlb_y15])], [(314, 10, 12), (314, 28, 30), (314, 31, 32), (319, 0, 2), (321, 36, 40), (323, 0, 2)])
set_option maxRecDepth 100000 in
theorem tA205 : vC tS tRA jM 12 tA205c := chkF_ok (D := 11) (hst := jM_st (by decide +kernel)) (T := [(fA0c 0), tA0c, tA25c, tA204c, tA121c]) (N := []) (sp := []) (fu := 59) (fa_cons (vUq (fA0 0) (by decide)) (fa_cons (vUq tA0 (by decide)) (fa_cons (vUq tA25 (by decide)) (fa_cons (vUq tA204 (by decide)) (fa_cons (vUq tA121 (by decide)) (fa_nil)))))) (by decide +kernel)
/-- X12_readClause -/
def tA206c : aCt := (186, [aR [314]], [zlb_y0, zlb_y104, zlb_y21, zlb_y13, zlb_y1, zlb_y14, zlb_y15], [(none, [(lLo, lHi)], [zlb_y4]), (none, [(lLo, lHi)], [zlb_y104, zlb_y13, zlb_y12, zlb_y0, zlb_y14, zlb_y15, zlb_y27, zlb_y28]), (none, [(lLo, lHi)], [zlb_y21, zlb_y13, zlb_y117, zlb_y0, zlb_y14, zlb_y15, zlb_y105, zlb_y106, zlb_y107, zlb_y108]), (none, [(lLo, lHi)], [zlb_y104, zlb_y21, zlb_y18, zlb_y0, zlb_y14, zlb_y15])], [(314, 10, 12), (314, 28, 30), (314, 31, 32), (319, 0, 2), (321, 32, 36), (323, 2, 4)])
set_option maxRecDepth 100000 in
theorem tA206 : vC tS tRA jM 12 tA206c := chkF_ok (D := 11) (hst := jM_st (by decide +kernel)) (T := [(fA0c 0), tA0c, tA127c, tA193c, tA121c]) (N := []) (sp := []) (fu := 59) (fa_cons (vUq (fA0 0) (by decide)) (fa_cons (vUq tA0 (by decide)) (fa_cons (vUq tA127 (by decide)) (fa_cons (vUq tA193 (by decide)) (fa_cons (vUq tA121 (by decide)) (fa_nil)))))) (by decide +kernel)
/-- X12_readClause -/
def tA207c : aCt := (186, [aR [314]], [zlb_y0, zlb_y91, zlb_y12, zlb_y13, zlb_y1, zlb_y14, zlb_y15], [(none, [(lLo, lHi)], [zlb_y4]), (none, [(lLo, lHi)], [zlb_y91, zlb_y13, zlb_y16, zlb_y0, zlb_y14, zlb_y15, zlb_y2, zlb_y3]), (none, [(lLo, lHi)], [zlb_y12, zlb_y13, zlb_y104, zlb_y0, zlb_y14, zlb_y15, zlb_y92, zlb_y93, zlb_y94, zlb_y95]), (none, [(lLo, lHi)], [zlb_y91, zlb_y12, zlb_y18, zlb_y0, zlb_y14, zlb_y15])], [(314, 10, 12), (314, 28, 30), (314, 31, 32), (319, 0, 2), (321, 28, 32), (323, 4, 6)])
set_option maxRecDepth 100000 in
theorem tA207 : vC tS tRA jM 12 tA207c := chkF_ok (D := 11) (hst := jM_st (by decide +kernel)) (T := [(fA0c 0), tA0c, tA134c, tA182c, tA121c]) (N := []) (sp := []) (fu := 59) (fa_cons (vUq (fA0 0) (by decide)) (fa_cons (vUq tA0 (by decide)) (fa_cons (vUq tA134 (by decide)) (fa_cons (vUq tA182 (by decide)) (fa_cons (vUq tA121 (by decide)) (fa_nil)))))) (by decide +kernel)
/-- X12_readClause -/
def tA208c : aCt := (186, [aR [314]], [zlb_y0, zlb_y78, zlb_y16, zlb_y13, zlb_y1, zlb_y14, zlb_y15], [(none, [(lLo, lHi)], [zlb_y4]), (none, [(lLo, lHi)], [zlb_y78, zlb_y13, zlb_y52, zlb_y0, zlb_y14, zlb_y15, zlb_y46, zlb_y47]), (none, [(lLo, lHi)], [zlb_y16, zlb_y13, zlb_y91, zlb_y0, zlb_y14, zlb_y15, zlb_y79, zlb_y80, zlb_y81, zlb_y82]), (none, [(lLo, lHi)], [zlb_y78, zlb_y16, zlb_y18, zlb_y0, zlb_y14, zlb_y15])], [(314, 10, 12), (314, 28, 30), (314, 31, 32), (319, 0, 2), (321, 24, 28), (323, 6, 8)])
set_option maxRecDepth 100000 in
theorem tA208 : vC tS tRA jM 12 tA208c := chkF_ok (D := 11) (hst := jM_st (by decide +kernel)) (T := [(fA0c 0), tA0c, tA143c, tA171c, tA121c]) (N := []) (sp := []) (fu := 59) (fa_cons (vUq (fA0 0) (by decide)) (fa_cons (vUq tA0 (by decide)) (fa_cons (vUq tA143 (by decide)) (fa_cons (vUq tA171 (by decide)) (fa_cons (vUq tA121 (by decide)) (fa_nil)))))) (by decide +kernel)
/-- X12_readClause -/
def tA209c : aCt := (186, [aR [314]], [zlb_y0, zlb_y65, zlb_y52, zlb_y13, zlb_y1, zlb_y14, zlb_y15], [(none, [(lLo, lHi)], [zlb_y4]), (none, [(lLo, lHi)], [zlb_y52, zlb_y13, zlb_y78, zlb_y0, zlb_y14, zlb_y15, zlb_y66, zlb_y67, zlb_y68, zlb_y69]), (none, [(lLo, lHi)], [zlb_y65, zlb_y52, zlb_y18, zlb_y0, zlb_y14, zlb_y15])], [(314, 10, 12), (314, 28, 29), (314, 31, 32), (319, 0, 2), (321, 20, 24)])
set_option maxRecDepth 100000 in
theorem tA209 : vC tS tRA jM 12 tA209c := chkF_ok (D := 11) (hst := jM_st (by decide +kernel)) (T := [(fA0c 0), tA0c, tA160c, tA121c]) (N := []) (sp := []) (fu := 57) (fa_cons (vUq (fA0 0) (by decide)) (fa_cons (vUq tA0 (by decide)) (fa_cons (vUq tA160 (by decide)) (fa_cons (vUq tA121 (by decide)) (fa_nil))))) (by decide +kernel)
/-- X12_readClause -/
def tA210c : aCt := (186, [aR [314]], [zlb_y0, zlb_y117, zlb_y20, zlb_y18, zlb_y1, zlb_y14, zlb_y15], [(none, [(lLo, lHi)], [zlb_y4]), (none, [(lLo, lHi)], ([zlb_y117, zlb_y18, zlb_y21, zlb_y0, zlb_y14, zlb_y15] ++ ([] ++ fkF 1))), (none, [(lLo, lHi)], [zlb_y20, zlb_y18, zlb_y130, zlb_y0, zlb_y14, zlb_y15, zlb_y118, zlb_y119, zlb_y120, zlb_y121])], [(314, 10, 12), (314, 28, 30), (321, 36, 40), (323, 0, 2)])
set_option maxRecDepth 100000 in
theorem tA210 : vC tS tRA jM 12 tA210c := chkF_ok (D := 11) (hst := jM_st (by decide +kernel)) (T := [(fA0c 0), tA0c, tA25c, tA204c]) (N := []) (sp := []) (fu := 59) (fa_cons (vUq (fA0 0) (by decide)) (fa_cons (vUq tA0 (by decide)) (fa_cons (vUq tA25 (by decide)) (fa_cons (vUq tA204 (by decide)) (fa_nil))))) (by decide +kernel)
/-- X12_readClause -/
def tA211c : aCt := (186, [aR [314]], [zlb_y0, zlb_y104, zlb_y21, zlb_y18, zlb_y1, zlb_y14, zlb_y15], [(none, [(lLo, lHi)], [zlb_y4]), (none, [(lLo, lHi)], [zlb_y104, zlb_y18, zlb_y12, zlb_y0, zlb_y14, zlb_y15, zlb_y27, zlb_y28]), (none, [(lLo, lHi)], [zlb_y21, zlb_y18, zlb_y117, zlb_y0, zlb_y14, zlb_y15, zlb_y105, zlb_y106, zlb_y107, zlb_y108])], [(314, 10, 12), (314, 28, 30), (321, 32, 36), (323, 2, 4)])
set_option maxRecDepth 100000 in
theorem tA211 : vC tS tRA jM 12 tA211c := chkF_ok (D := 11) (hst := jM_st (by decide +kernel)) (T := [(fA0c 0), tA0c, tA127c, tA193c]) (N := []) (sp := []) (fu := 59) (fa_cons (vUq (fA0 0) (by decide)) (fa_cons (vUq tA0 (by decide)) (fa_cons (vUq tA127 (by decide)) (fa_cons (vUq tA193 (by decide)) (fa_nil))))) (by decide +kernel)
/-- X12_readClause -/
def tA212c : aCt := (186, [aR [314]], [zlb_y0, zlb_y91, zlb_y12, zlb_y18, zlb_y1, zlb_y14, zlb_y15], [(none, [(lLo, lHi)], [zlb_y4]), (none, [(lLo, lHi)], [zlb_y91, zlb_y18, zlb_y16, zlb_y0, zlb_y14, zlb_y15, zlb_y2, zlb_y3]), (none, [(lLo, lHi)], [zlb_y12, zlb_y18, zlb_y104, zlb_y0, zlb_y14, zlb_y15, zlb_y92, zlb_y93, zlb_y94, zlb_y95])], [(314, 10, 12), (314, 28, 30), (321, 28, 32), (323, 4, 6)])
set_option maxRecDepth 100000 in
theorem tA212 : vC tS tRA jM 12 tA212c := chkF_ok (D := 11) (hst := jM_st (by decide +kernel)) (T := [(fA0c 0), tA0c, tA134c, tA182c]) (N := []) (sp := []) (fu := 59) (fa_cons (vUq (fA0 0) (by decide)) (fa_cons (vUq tA0 (by decide)) (fa_cons (vUq tA134 (by decide)) (fa_cons (vUq tA182 (by decide)) (fa_nil))))) (by decide +kernel)
/-- X12_readClause -/
def tA213c : aCt := (186, [aR [314]], [zlb_y0, zlb_y78, zlb_y16, zlb_y18, zlb_y1, zlb_y14, zlb_y15], [(none, [(lLo, lHi)], [zlb_y4]), (none, [(lLo, lHi)], [zlb_y78, zlb_y18, zlb_y52, zlb_y0, zlb_y14, zlb_y15, zlb_y46, zlb_y47]), (none, [(lLo, lHi)], [zlb_y16, zlb_y18, zlb_y91, zlb_y0, zlb_y14, zlb_y15, zlb_y79, zlb_y80, zlb_y81, zlb_y82])], [(314, 10, 12), (314, 28, 30), (321, 24, 28), (323, 6, 8)])
set_option maxRecDepth 100000 in
theorem tA213 : vC tS tRA jM 12 tA213c := chkF_ok (D := 11) (hst := jM_st (by decide +kernel)) (T := [(fA0c 0), tA0c, tA143c, tA171c]) (N := []) (sp := []) (fu := 59) (fa_cons (vUq (fA0 0) (by decide)) (fa_cons (vUq tA0 (by decide)) (fa_cons (vUq tA143 (by decide)) (fa_cons (vUq tA171 (by decide)) (fa_nil))))) (by decide +kernel)
/-- X12_readClause -/
def tA214c : aCt := (186, [aR [314]], [zlb_y0, zlb_y65, zlb_y52, zlb_y18, zlb_y1, zlb_y14, zlb_y15], [(none, [(lLo, lHi)], [zlb_y4]), (none, [(lLo, lHi)], [zlb_y52, zlb_y18, zlb_y78, zlb_y0, zlb_y14, zlb_y15, zlb_y66, zlb_y67, zlb_y68, zlb_y69])], [(314, 10, 12), (314, 28, 29), (321, 20, 24)])
set_option maxRecDepth 100000 in
theorem tA214 : vC tS tRA jM 12 tA214c := chkF_ok (D := 11) (hst := jM_st (by decide +kernel)) (T := [(fA0c 0), tA0c, tA160c]) (N := []) (sp := []) (fu := 57) (fa_cons (vUq (fA0 0) (by decide)) (fa_cons (vUq tA0 (by decide)) (fa_cons (vUq tA160 (by decide)) (fa_nil)))) (by decide +kernel)
/-- X12_readItems -/
def tA215c : aCt := (185, [aR [314], aI 101 101, aR [321], aI 40 40, aR [1003]], zlb_q0, [(none, zlb_l5, [zlb_y0, zlb_y131, zlb_y132, zlb_y133, zlb_y134]), (none, zlb_l5, [zlb_y4])], [(314, 10, 12), (321, 40, 44)])
set_option maxRecDepth 100000 in
theorem tA215 : vC tS tRA jM 11 tA215c := chkF_ok (D := 10) (hst := jM_st (by decide +kernel)) (T := [(fA3c 0), tA26c, tA27c, tA28c, tA29c, tA30c, (fA0c 0), tA35c, tA36c, tA8c, tA37c, tA38c, tA13c, tA14c, tA39c, tA40c, tA41c, tA42c, tA43c, tA45c, tA46c, tA47c, tA48c, tA50c, tA19c, tA0c, tA20c, tA51c, tA52c, tA21c, tA22c, tA53c, tA54c, tA55c, tA56c, tA57c, tA58c, tA59c, tA60c, tA61c, tA62c, tA23c, tA24c, tA63c, tA64c, tA65c, tA66c, tA67c, tA68c, tA69c, tA70c, tA71c, tA72c, tA73c, tA74c, tA75c, tA76c, tA77c, tA78c, tA79c, tA80c, tA81c, tA82c, tA83c, tA84c, tA85c, tA86c, tA87c, tA88c, tA89c, tA90c, tA91c, tA92c, tA93c, tA94c, tA95c, tA96c, tA97c, tA98c, tA99c, tA100c, tA101c, tA102c, tA103c, tA104c]) (N := [(3, [zlb_x0, zlb_x12, zlb_x13, zlb_x37, zlb_x15, zlb_x5], zlb_q0, 9, []),
  (3, [zlb_x0, zlb_x12, zlb_x13, zlb_x37, zlb_x15, zlb_x6], [zlb_y0, zlb_y1, zlb_y135], 8, []),
  (3, [zlb_x0, zlb_x12, zlb_x13, zlb_x37, zlb_x15, zlb_x7], [zlb_y0, zlb_y1, zlb_y135, zlb_y136], 7, []),
  (3, [zlb_x0, zlb_x12, zlb_x13, zlb_x37, zlb_x15, zlb_x11], [zlb_y0, zlb_y1, zlb_y135, zlb_y136, zlb_y137], 6, []),
  (3, [zlb_x0, zlb_x12, zlb_x13, zlb_x37, zlb_x15, zlb_x16], zlb_q89, 5, []),
  (45, [zlb_x0, zlb_x12, zlb_x13, zlb_x37, zlb_x15, zlb_x5, zlb_x8], zlb_q90, 4, []),
  (45, [zlb_x0, zlb_x12, zlb_x13, zlb_x37, zlb_x15, zlb_x5, zlb_x9], zlb_q90, 4, []),
  (45, [zlb_x0, zlb_x12, zlb_x13, zlb_x37, zlb_x15, zlb_x5, zlb_x17], zlb_q90, 4, []),
  (45, [zlb_x0, zlb_x12, zlb_x13, zlb_x37, zlb_x15, zlb_x5, zlb_x18], zlb_q90, 4, []),
  (45, [zlb_x0, zlb_x12, zlb_x13, zlb_x37, zlb_x15, zlb_x5, zlb_x10], zlb_q89, 0, []),
  (45, [zlb_x0, zlb_x12, zlb_x13, zlb_x37, zlb_x15, zlb_x6, zlb_x8], [zlb_y1, zlb_y136, zlb_y137, zlb_y138, zlb_y139], 0, []),
  (45, [zlb_x0, zlb_x12, zlb_x13, zlb_x37, zlb_x15, zlb_x6, zlb_x9], zlb_q91, 3, []),
  (45, [zlb_x0, zlb_x12, zlb_x13, zlb_x37, zlb_x15, zlb_x6, zlb_x17], zlb_q91, 3, []),
  (45, [zlb_x0, zlb_x12, zlb_x13, zlb_x37, zlb_x15, zlb_x6, zlb_x18], zlb_q91, 3, []),
  (45, [zlb_x0, zlb_x12, zlb_x13, zlb_x37, zlb_x15, zlb_x6, zlb_x10], [zlb_y0, zlb_y1, zlb_y136, zlb_y137, zlb_y138, zlb_y131, zlb_y9], 0, []),
  (45, [zlb_x0, zlb_x12, zlb_x13, zlb_x37, zlb_x15, zlb_x7, zlb_x8], zlb_q92, 3, []),
  (45, [zlb_x0, zlb_x12, zlb_x13, zlb_x37, zlb_x15, zlb_x7, zlb_x9], [zlb_y1, zlb_y135, zlb_y137, zlb_y138, zlb_y140], 0, []),
  (45, [zlb_x0, zlb_x12, zlb_x13, zlb_x37, zlb_x15, zlb_x7, zlb_x17], zlb_q92, 3, []),
  (45, [zlb_x0, zlb_x12, zlb_x13, zlb_x37, zlb_x15, zlb_x7, zlb_x18], zlb_q92, 3, []),
  (45, [zlb_x0, zlb_x12, zlb_x13, zlb_x37, zlb_x15, zlb_x7, zlb_x10], [zlb_y0, zlb_y1, zlb_y135, zlb_y137, zlb_y138, zlb_y132, zlb_y9], 0, []),
  (45, [zlb_x0, zlb_x12, zlb_x13, zlb_x37, zlb_x15, zlb_x16, zlb_x8], zlb_q93, 3, []),
  (45, [zlb_x0, zlb_x12, zlb_x13, zlb_x37, zlb_x15, zlb_x16, zlb_x9], zlb_q93, 3, []),
  (45, [zlb_x0, zlb_x12, zlb_x13, zlb_x37, zlb_x15, zlb_x16, zlb_x17], [zlb_y1, zlb_y135, zlb_y136, zlb_y138, zlb_y141], 0, []),
  (45, [zlb_x0, zlb_x12, zlb_x13, zlb_x37, zlb_x15, zlb_x16, zlb_x18], zlb_q93, 3, []),
  (45, [zlb_x0, zlb_x12, zlb_x13, zlb_x37, zlb_x15, zlb_x16, zlb_x10], [zlb_y0, zlb_y1, zlb_y135, zlb_y136, zlb_y138, zlb_y133, zlb_y9], 0, []),
  (45, [zlb_x0, zlb_x12, zlb_x13, zlb_x37, zlb_x15, zlb_x19, zlb_x8], zlb_q94, 3, []),
  (45, [zlb_x0, zlb_x12, zlb_x13, zlb_x37, zlb_x15, zlb_x19, zlb_x9], zlb_q94, 3, []),
  (45, [zlb_x0, zlb_x12, zlb_x13, zlb_x37, zlb_x15, zlb_x19, zlb_x17], zlb_q94, 3, []),
  (45, [zlb_x0, zlb_x12, zlb_x13, zlb_x37, zlb_x15, zlb_x19, zlb_x18], [zlb_y1, zlb_y135, zlb_y136, zlb_y137, zlb_y142], 0, []),
  (45, [zlb_x0, zlb_x12, zlb_x13, zlb_x37, zlb_x15, zlb_x19, zlb_x10], [zlb_y0, zlb_y1, zlb_y135, zlb_y136, zlb_y137, zlb_y134, zlb_y9], 0, []),
  (45, [zlb_x0, zlb_x12, zlb_x13, zlb_x37, zlb_x15, zlb_x11, zlb_x8], [zlb_y1, zlb_y137, zlb_y138, zlb_y139, zlb_y132], 0, []),
  (45, [zlb_x0, zlb_x12, zlb_x13, zlb_x37, zlb_x15, zlb_x11, zlb_x9], [zlb_y1, zlb_y137, zlb_y138, zlb_y131, zlb_y140], 0, []),
  (45, [zlb_x0, zlb_x12, zlb_x13, zlb_x37, zlb_x15, zlb_x11, zlb_x17], zlb_q95, 2, []),
  (45, [zlb_x0, zlb_x12, zlb_x13, zlb_x37, zlb_x15, zlb_x11, zlb_x18], zlb_q95, 2, []),
  (45, [zlb_x0, zlb_x12, zlb_x13, zlb_x37, zlb_x15, zlb_x11, zlb_x10], [zlb_y0, zlb_y1, zlb_y137, zlb_y138, zlb_y131, zlb_y132, zlb_y9], 0, []),
  (45, [zlb_x0, zlb_x12, zlb_x13, zlb_x37, zlb_x15, zlb_x20, zlb_x8], [zlb_y1, zlb_y136, zlb_y138, zlb_y139, zlb_y133], 0, []),
  (45, [zlb_x0, zlb_x12, zlb_x13, zlb_x37, zlb_x15, zlb_x20, zlb_x9], zlb_q96, 2, []),
  (45, [zlb_x0, zlb_x12, zlb_x13, zlb_x37, zlb_x15, zlb_x20, zlb_x17], [zlb_y1, zlb_y136, zlb_y138, zlb_y131, zlb_y141], 0, []),
  (45, [zlb_x0, zlb_x12, zlb_x13, zlb_x37, zlb_x15, zlb_x20, zlb_x18], zlb_q96, 2, []),
  (45, [zlb_x0, zlb_x12, zlb_x13, zlb_x37, zlb_x15, zlb_x20, zlb_x10], [zlb_y0, zlb_y1, zlb_y136, zlb_y138, zlb_y131, zlb_y133, zlb_y9], 0, []),
  (45, [zlb_x0, zlb_x12, zlb_x13, zlb_x37, zlb_x15, zlb_x21, zlb_x8], [zlb_y1, zlb_y136, zlb_y137, zlb_y139, zlb_y134], 0, []),
  (45, [zlb_x0, zlb_x12, zlb_x13, zlb_x37, zlb_x15, zlb_x21, zlb_x9], zlb_q97, 2, []),
  (45, [zlb_x0, zlb_x12, zlb_x13, zlb_x37, zlb_x15, zlb_x21, zlb_x17], zlb_q97, 2, []),
  (45, [zlb_x0, zlb_x12, zlb_x13, zlb_x37, zlb_x15, zlb_x21, zlb_x18], [zlb_y1, zlb_y136, zlb_y137, zlb_y131, zlb_y142], 0, []),
  (45, [zlb_x0, zlb_x12, zlb_x13, zlb_x37, zlb_x15, zlb_x21, zlb_x10], [zlb_y0, zlb_y1, zlb_y136, zlb_y137, zlb_y131, zlb_y134, zlb_y9], 0, []),
  (45, [zlb_x0, zlb_x12, zlb_x13, zlb_x37, zlb_x15, zlb_x22, zlb_x8], zlb_q98, 2, []),
  (45, [zlb_x0, zlb_x12, zlb_x13, zlb_x37, zlb_x15, zlb_x22, zlb_x9], [zlb_y1, zlb_y135, zlb_y138, zlb_y140, zlb_y133], 0, []),
  (45, [zlb_x0, zlb_x12, zlb_x13, zlb_x37, zlb_x15, zlb_x22, zlb_x17], [zlb_y1, zlb_y135, zlb_y138, zlb_y132, zlb_y141], 0, []),
  (45, [zlb_x0, zlb_x12, zlb_x13, zlb_x37, zlb_x15, zlb_x22, zlb_x18], zlb_q98, 2, []),
  (45, [zlb_x0, zlb_x12, zlb_x13, zlb_x37, zlb_x15, zlb_x22, zlb_x10], [zlb_y0, zlb_y1, zlb_y135, zlb_y138, zlb_y132, zlb_y133, zlb_y9], 0, []),
  (45, [zlb_x0, zlb_x12, zlb_x13, zlb_x37, zlb_x15, zlb_x23, zlb_x8], zlb_q99, 2, []),
  (45, [zlb_x0, zlb_x12, zlb_x13, zlb_x37, zlb_x15, zlb_x23, zlb_x9], [zlb_y1, zlb_y135, zlb_y137, zlb_y140, zlb_y134], 0, []),
  (45, [zlb_x0, zlb_x12, zlb_x13, zlb_x37, zlb_x15, zlb_x23, zlb_x17], zlb_q99, 2, []),
  (45, [zlb_x0, zlb_x12, zlb_x13, zlb_x37, zlb_x15, zlb_x23, zlb_x18], [zlb_y1, zlb_y135, zlb_y137, zlb_y132, zlb_y142], 0, []),
  (45, [zlb_x0, zlb_x12, zlb_x13, zlb_x37, zlb_x15, zlb_x23, zlb_x10], [zlb_y0, zlb_y1, zlb_y135, zlb_y137, zlb_y132, zlb_y134, zlb_y9], 0, []),
  (45, [zlb_x0, zlb_x12, zlb_x13, zlb_x37, zlb_x15, zlb_x24, zlb_x8], zlb_q100, 2, []),
  (45, [zlb_x0, zlb_x12, zlb_x13, zlb_x37, zlb_x15, zlb_x24, zlb_x9], zlb_q100, 2, []),
  (45, [zlb_x0, zlb_x12, zlb_x13, zlb_x37, zlb_x15, zlb_x24, zlb_x17], [zlb_y1, zlb_y135, zlb_y136, zlb_y141, zlb_y134], 0, []),
  (45, [zlb_x0, zlb_x12, zlb_x13, zlb_x37, zlb_x15, zlb_x24, zlb_x18], [zlb_y1, zlb_y135, zlb_y136, zlb_y133, zlb_y142], 0, []),
  (45, [zlb_x0, zlb_x12, zlb_x13, zlb_x37, zlb_x15, zlb_x24, zlb_x10], [zlb_y0, zlb_y1, zlb_y135, zlb_y136, zlb_y133, zlb_y134, zlb_y9], 0, []),
  (45, [zlb_x0, zlb_x12, zlb_x13, zlb_x37, zlb_x15, zlb_x25, zlb_x8], [zlb_y1, zlb_y138, zlb_y139, zlb_y132, zlb_y133], 0, []),
  (45, [zlb_x0, zlb_x12, zlb_x13, zlb_x37, zlb_x15, zlb_x25, zlb_x9], [zlb_y1, zlb_y138, zlb_y131, zlb_y140, zlb_y133], 0, []),
  (45, [zlb_x0, zlb_x12, zlb_x13, zlb_x37, zlb_x15, zlb_x25, zlb_x17], [zlb_y1, zlb_y138, zlb_y131, zlb_y132, zlb_y141], 0, []),
  (45, [zlb_x0, zlb_x12, zlb_x13, zlb_x37, zlb_x15, zlb_x25, zlb_x18], [zlb_y0, zlb_y1, zlb_y138, zlb_y131, zlb_y132, zlb_y133, zlb_y7], 1, []),
  (45, [zlb_x0, zlb_x12, zlb_x13, zlb_x37, zlb_x15, zlb_x25, zlb_x10], [zlb_y0, zlb_y1, zlb_y138, zlb_y131, zlb_y132, zlb_y133, zlb_y9], 0, []),
  (45, [zlb_x0, zlb_x12, zlb_x13, zlb_x37, zlb_x15, zlb_x26, zlb_x8], [zlb_y1, zlb_y137, zlb_y139, zlb_y132, zlb_y134], 0, []),
  (45, [zlb_x0, zlb_x12, zlb_x13, zlb_x37, zlb_x15, zlb_x26, zlb_x9], [zlb_y1, zlb_y137, zlb_y131, zlb_y140, zlb_y134], 0, []),
  (45, [zlb_x0, zlb_x12, zlb_x13, zlb_x37, zlb_x15, zlb_x26, zlb_x17], [zlb_y0, zlb_y1, zlb_y137, zlb_y131, zlb_y132, zlb_y134, zlb_y7], 1, []),
  (45, [zlb_x0, zlb_x12, zlb_x13, zlb_x37, zlb_x15, zlb_x26, zlb_x18], [zlb_y1, zlb_y137, zlb_y131, zlb_y132, zlb_y142], 0, []),
  (45, [zlb_x0, zlb_x12, zlb_x13, zlb_x37, zlb_x15, zlb_x26, zlb_x10], [zlb_y0, zlb_y1, zlb_y137, zlb_y131, zlb_y132, zlb_y134, zlb_y9], 0, []),
  (45, [zlb_x0, zlb_x12, zlb_x13, zlb_x37, zlb_x15, zlb_x27, zlb_x8], [zlb_y1, zlb_y136, zlb_y139, zlb_y133, zlb_y134], 0, []),
  (45, [zlb_x0, zlb_x12, zlb_x13, zlb_x37, zlb_x15, zlb_x27, zlb_x9], [zlb_y0, zlb_y1, zlb_y136, zlb_y131, zlb_y133, zlb_y134, zlb_y7], 1, []),
  (45, [zlb_x0, zlb_x12, zlb_x13, zlb_x37, zlb_x15, zlb_x27, zlb_x17], [zlb_y1, zlb_y136, zlb_y131, zlb_y141, zlb_y134], 0, []),
  (45, [zlb_x0, zlb_x12, zlb_x13, zlb_x37, zlb_x15, zlb_x27, zlb_x18], [zlb_y1, zlb_y136, zlb_y131, zlb_y133, zlb_y142], 0, []),
  (45, [zlb_x0, zlb_x12, zlb_x13, zlb_x37, zlb_x15, zlb_x27, zlb_x10], [zlb_y0, zlb_y1, zlb_y136, zlb_y131, zlb_y133, zlb_y134, zlb_y9], 0, []),
  (45, [zlb_x0, zlb_x12, zlb_x13, zlb_x37, zlb_x15, zlb_x28, zlb_x8], [zlb_y0, zlb_y1, zlb_y135, zlb_y132, zlb_y133, zlb_y134, zlb_y7], 1, []),
  (45, [zlb_x0, zlb_x12, zlb_x13, zlb_x37, zlb_x15, zlb_x28, zlb_x9], [zlb_y1, zlb_y135, zlb_y140, zlb_y133, zlb_y134], 0, []),
  (45, [zlb_x0, zlb_x12, zlb_x13, zlb_x37, zlb_x15, zlb_x28, zlb_x17], [zlb_y1, zlb_y135, zlb_y132, zlb_y141, zlb_y134], 0, []),
  (45, [zlb_x0, zlb_x12, zlb_x13, zlb_x37, zlb_x15, zlb_x28, zlb_x18], [zlb_y1, zlb_y135, zlb_y132, zlb_y133, zlb_y142], 0, []),
  (45, [zlb_x0, zlb_x12, zlb_x13, zlb_x37, zlb_x15, zlb_x28, zlb_x10], [zlb_y0, zlb_y1, zlb_y135, zlb_y132, zlb_y133, zlb_y134, zlb_y9], 0, []),
  (45, [zlb_x0, zlb_x12, zlb_x13, zlb_x37, zlb_x15, zlb_x29, zlb_x8], [zlb_y1, zlb_y139, zlb_y132, zlb_y133, zlb_y134], 0, []),
  (45, [zlb_x0, zlb_x12, zlb_x13, zlb_x37, zlb_x15, zlb_x29, zlb_x9], [zlb_y1, zlb_y131, zlb_y140, zlb_y133, zlb_y134], 0, []),
  (45, [zlb_x0, zlb_x12, zlb_x13, zlb_x37, zlb_x15, zlb_x29, zlb_x17], [zlb_y1, zlb_y131, zlb_y132, zlb_y141, zlb_y134], 0, []),
  (45, [zlb_x0, zlb_x12, zlb_x13, zlb_x37, zlb_x15, zlb_x29, zlb_x18], [zlb_y1, zlb_y131, zlb_y132, zlb_y133, zlb_y142], 0, []),
  (45, [zlb_x0, zlb_x12, zlb_x13, zlb_x37, zlb_x15, zlb_x29, zlb_x10], [zlb_y0, zlb_y1, zlb_y131, zlb_y132, zlb_y133, zlb_y134, zlb_y9], 0, [])]) (sp := [(3, 5), (45, 6)]) (fu := 54) (fa_cons (vUq (fA3 0) (by decide)) (fa_cons (vUq tA26 (by decide)) (fa_cons (vUq tA27 (by decide)) (fa_cons (vUq tA28 (by decide)) (fa_cons (vUq tA29 (by decide)) (fa_cons (vUq tA30 (by decide)) (fa_cons (vUq (fA0 0) (by decide)) (fa_cons (vUq tA35 (by decide)) (fa_cons (vUq tA36 (by decide)) (fa_cons (vUq tA8 (by decide)) (fa_cons (vUq tA37 (by decide)) (fa_cons (vUq tA38 (by decide)) (fa_cons (vUq tA13 (by decide)) (fa_cons (vUq tA14 (by decide)) (fa_cons (vUq tA39 (by decide)) (fa_cons (vUq tA40 (by decide)) (fa_cons (vUq tA41 (by decide)) (fa_cons (vUq tA42 (by decide)) (fa_cons (vUq tA43 (by decide)) (fa_cons (vUq tA45 (by decide)) (fa_cons (vUq tA46 (by decide)) (fa_cons (vUq tA47 (by decide)) (fa_cons (vUq tA48 (by decide)) (fa_cons (vUq tA50 (by decide)) (fa_cons (vUq tA19 (by decide)) (fa_cons (vUq tA0 (by decide)) (fa_cons (vUq tA20 (by decide)) (fa_cons (vUq tA51 (by decide)) (fa_cons (vUq tA52 (by decide)) (fa_cons (vUq tA21 (by decide)) (fa_cons (vUq tA22 (by decide)) (fa_cons (vUq tA53 (by decide)) (fa_cons (vUq tA54 (by decide)) (fa_cons (vUq tA55 (by decide)) (fa_cons (vUq tA56 (by decide)) (fa_cons (vUq tA57 (by decide)) (fa_cons (vUq tA58 (by decide)) (fa_cons (vUq tA59 (by decide)) (fa_cons (vUq tA60 (by decide)) (fa_cons (vUq tA61 (by decide)) (fa_cons (vUq tA62 (by decide)) (fa_cons (vUq tA23 (by decide)) (fa_cons (vUq tA24 (by decide)) (fa_cons (vUq tA63 (by decide)) (fa_cons (vUq tA64 (by decide)) (fa_cons (vUq tA65 (by decide)) (fa_cons (vUq tA66 (by decide)) (fa_cons (vUq tA67 (by decide)) (fa_cons (vUq tA68 (by decide)) (fa_cons (vUq tA69 (by decide)) (fa_cons (vUq tA70 (by decide)) (fa_cons (vUq tA71 (by decide)) (fa_cons (vUq tA72 (by decide)) (fa_cons (vUq tA73 (by decide)) (fa_cons (vUq tA74 (by decide)) (fa_cons (vUq tA75 (by decide)) (fa_cons (vUq tA76 (by decide)) (fa_cons (vUq tA77 (by decide)) (fa_cons (vUq tA78 (by decide)) (fa_cons (vUq tA79 (by decide)) (fa_cons (vUq tA80 (by decide)) (fa_cons (vUq tA81 (by decide)) (fa_cons (vUq tA82 (by decide)) (fa_cons (vUq tA83 (by decide)) (fa_cons (vUq tA84 (by decide)) (fa_cons (vUq tA85 (by decide)) (fa_cons (vUq tA86 (by decide)) (fa_cons (vUq tA87 (by decide)) (fa_cons (vUq tA88 (by decide)) (fa_cons (vUq tA89 (by decide)) (fa_cons (vUq tA90 (by decide)) (fa_cons (vUq tA91 (by decide)) (fa_cons (vUq tA92 (by decide)) (fa_cons (vUq tA93 (by decide)) (fa_cons (vUq tA94 (by decide)) (fa_cons (vUq tA95 (by decide)) (fa_cons (vUq tA96 (by decide)) (fa_cons (vUq tA97 (by decide)) (fa_cons (vUq tA98 (by decide)) (fa_cons (vUq tA99 (by decide)) (fa_cons (vUq tA100 (by decide)) (fa_cons (vUq tA101 (by decide)) (fa_cons (vUq tA102 (by decide)) (fa_cons (vUq tA103 (by decide)) (fa_cons (vUq tA104 (by decide)) (fa_nil)))))))))))))))))))))))))))))))))))))))))))))))))))))))))))))))))))))))))))))))))))))) (by decide +kernel)
/-- X12_readClause -/
def tA216c : aCt := (186, [aR [314]], [zlb_y0, zlb_y130, zlb_y20, zlb_y13, zlb_y1, zlb_y14, zlb_y15], [(none, [(lLo, lHi)], [zlb_y4]), (none, [(lLo, lHi)], ([zlb_y130, zlb_y13, zlb_y21, zlb_y0, zlb_y14, zlb_y15] ++ ([] ++ fkF 1))), (none, [(lLo, lHi)], [zlb_y20, zlb_y13, zlb_y143, zlb_y0, zlb_y14, zlb_y15, zlb_y131, zlb_y132, zlb_y133, zlb_y134]), (none, [(lLo, lHi)], [zlb_y130, zlb_y20, zlb_y18, zlb_y0, zlb_y14, zlb_y15])], [(314, 10, 12), (314, 28, 30), (314, 31, 32), (319, 0, 2), (321, 40, 44), (323, 0, 2)])
set_option maxRecDepth 100000 in
theorem tA216 : vC tS tRA jM 12 tA216c := chkF_ok (D := 11) (hst := jM_st (by decide +kernel)) (T := [(fA0c 0), tA0c, tA25c, tA215c, tA121c]) (N := []) (sp := []) (fu := 59) (fa_cons (vUq (fA0 0) (by decide)) (fa_cons (vUq tA0 (by decide)) (fa_cons (vUq tA25 (by decide)) (fa_cons (vUq tA215 (by decide)) (fa_cons (vUq tA121 (by decide)) (fa_nil)))))) (by decide +kernel)
/-- X12_readClause -/
def tA217c : aCt := (186, [aR [314]], [zlb_y0, zlb_y117, zlb_y21, zlb_y13, zlb_y1, zlb_y14, zlb_y15], [(none, [(lLo, lHi)], [zlb_y4]), (none, [(lLo, lHi)], [zlb_y117, zlb_y13, zlb_y12, zlb_y0, zlb_y14, zlb_y15, zlb_y27, zlb_y28]), (none, [(lLo, lHi)], [zlb_y21, zlb_y13, zlb_y130, zlb_y0, zlb_y14, zlb_y15, zlb_y118, zlb_y119, zlb_y120, zlb_y121]), (none, [(lLo, lHi)], [zlb_y117, zlb_y21, zlb_y18, zlb_y0, zlb_y14, zlb_y15])], [(314, 10, 12), (314, 28, 30), (314, 31, 32), (319, 0, 2), (321, 36, 40), (323, 2, 4)])
set_option maxRecDepth 100000 in
theorem tA217 : vC tS tRA jM 12 tA217c := chkF_ok (D := 11) (hst := jM_st (by decide +kernel)) (T := [(fA0c 0), tA0c, tA127c, tA204c, tA121c]) (N := []) (sp := []) (fu := 59) (fa_cons (vUq (fA0 0) (by decide)) (fa_cons (vUq tA0 (by decide)) (fa_cons (vUq tA127 (by decide)) (fa_cons (vUq tA204 (by decide)) (fa_cons (vUq tA121 (by decide)) (fa_nil)))))) (by decide +kernel)
/-- X12_readClause -/
def tA218c : aCt := (186, [aR [314]], [zlb_y0, zlb_y104, zlb_y12, zlb_y13, zlb_y1, zlb_y14, zlb_y15], [(none, [(lLo, lHi)], [zlb_y4]), (none, [(lLo, lHi)], [zlb_y104, zlb_y13, zlb_y16, zlb_y0, zlb_y14, zlb_y15, zlb_y2, zlb_y3]), (none, [(lLo, lHi)], [zlb_y12, zlb_y13, zlb_y117, zlb_y0, zlb_y14, zlb_y15, zlb_y105, zlb_y106, zlb_y107, zlb_y108]), (none, [(lLo, lHi)], [zlb_y104, zlb_y12, zlb_y18, zlb_y0, zlb_y14, zlb_y15])], [(314, 10, 12), (314, 28, 30), (314, 31, 32), (319, 0, 2), (321, 32, 36), (323, 4, 6)])
set_option maxRecDepth 100000 in
theorem tA218 : vC tS tRA jM 12 tA218c := chkF_ok (D := 11) (hst := jM_st (by decide +kernel)) (T := [(fA0c 0), tA0c, tA134c, tA193c, tA121c]) (N := []) (sp := []) (fu := 59) (fa_cons (vUq (fA0 0) (by decide)) (fa_cons (vUq tA0 (by decide)) (fa_cons (vUq tA134 (by decide)) (fa_cons (vUq tA193 (by decide)) (fa_cons (vUq tA121 (by decide)) (fa_nil)))))) (by decide +kernel)
/-- X12_readClause -/
def tA219c : aCt := (186, [aR [314]], [zlb_y0, zlb_y91, zlb_y16, zlb_y13, zlb_y1, zlb_y14, zlb_y15], [(none, [(lLo, lHi)], [zlb_y4]), (none, [(lLo, lHi)], [zlb_y91, zlb_y13, zlb_y52, zlb_y0, zlb_y14, zlb_y15, zlb_y46, zlb_y47]), (none, [(lLo, lHi)], [zlb_y16, zlb_y13, zlb_y104, zlb_y0, zlb_y14, zlb_y15, zlb_y92, zlb_y93, zlb_y94, zlb_y95]), (none, [(lLo, lHi)], [zlb_y91, zlb_y16, zlb_y18, zlb_y0, zlb_y14, zlb_y15])], [(314, 10, 12), (314, 28, 30), (314, 31, 32), (319, 0, 2), (321, 28, 32), (323, 6, 8)])
set_option maxRecDepth 100000 in
theorem tA219 : vC tS tRA jM 12 tA219c := chkF_ok (D := 11) (hst := jM_st (by decide +kernel)) (T := [(fA0c 0), tA0c, tA143c, tA182c, tA121c]) (N := []) (sp := []) (fu := 59) (fa_cons (vUq (fA0 0) (by decide)) (fa_cons (vUq tA0 (by decide)) (fa_cons (vUq tA143 (by decide)) (fa_cons (vUq tA182 (by decide)) (fa_cons (vUq tA121 (by decide)) (fa_nil)))))) (by decide +kernel)
/-- X12_readClause -/
def tA220c : aCt := (186, [aR [314]], [zlb_y0, zlb_y78, zlb_y52, zlb_y13, zlb_y1, zlb_y14, zlb_y15], [(none, [(lLo, lHi)], [zlb_y4]), (none, [(lLo, lHi)], [zlb_y52, zlb_y13, zlb_y91, zlb_y0, zlb_y14, zlb_y15, zlb_y79, zlb_y80, zlb_y81, zlb_y82]), (none, [(lLo, lHi)], [zlb_y78, zlb_y52, zlb_y18, zlb_y0, zlb_y14, zlb_y15])], [(314, 10, 12), (314, 28, 29), (314, 31, 32), (319, 0, 2), (321, 24, 28)])
set_option maxRecDepth 100000 in
theorem tA220 : vC tS tRA jM 12 tA220c := chkF_ok (D := 11) (hst := jM_st (by decide +kernel)) (T := [(fA0c 0), tA0c, tA171c, tA121c]) (N := []) (sp := []) (fu := 57) (fa_cons (vUq (fA0 0) (by decide)) (fa_cons (vUq tA0 (by decide)) (fa_cons (vUq tA171 (by decide)) (fa_cons (vUq tA121 (by decide)) (fa_nil))))) (by decide +kernel)
/-- X12_readClause -/
def tA221c : aCt := (186, [aR [314]], [zlb_y0, zlb_y130, zlb_y20, zlb_y18, zlb_y1, zlb_y14, zlb_y15], [(none, [(lLo, lHi)], [zlb_y4]), (none, [(lLo, lHi)], ([zlb_y130, zlb_y18, zlb_y21, zlb_y0, zlb_y14, zlb_y15] ++ ([] ++ fkF 1))), (none, [(lLo, lHi)], [zlb_y20, zlb_y18, zlb_y143, zlb_y0, zlb_y14, zlb_y15, zlb_y131, zlb_y132, zlb_y133, zlb_y134])], [(314, 10, 12), (314, 28, 30), (321, 40, 44), (323, 0, 2)])
set_option maxRecDepth 100000 in
theorem tA221 : vC tS tRA jM 12 tA221c := chkF_ok (D := 11) (hst := jM_st (by decide +kernel)) (T := [(fA0c 0), tA0c, tA25c, tA215c]) (N := []) (sp := []) (fu := 59) (fa_cons (vUq (fA0 0) (by decide)) (fa_cons (vUq tA0 (by decide)) (fa_cons (vUq tA25 (by decide)) (fa_cons (vUq tA215 (by decide)) (fa_nil))))) (by decide +kernel)
/-- X12_readClause -/
def tA222c : aCt := (186, [aR [314]], [zlb_y0, zlb_y117, zlb_y21, zlb_y18, zlb_y1, zlb_y14, zlb_y15], [(none, [(lLo, lHi)], [zlb_y4]), (none, [(lLo, lHi)], [zlb_y117, zlb_y18, zlb_y12, zlb_y0, zlb_y14, zlb_y15, zlb_y27, zlb_y28]), (none, [(lLo, lHi)], [zlb_y21, zlb_y18, zlb_y130, zlb_y0, zlb_y14, zlb_y15, zlb_y118, zlb_y119, zlb_y120, zlb_y121])], [(314, 10, 12), (314, 28, 30), (321, 36, 40), (323, 2, 4)])
set_option maxRecDepth 100000 in
theorem tA222 : vC tS tRA jM 12 tA222c := chkF_ok (D := 11) (hst := jM_st (by decide +kernel)) (T := [(fA0c 0), tA0c, tA127c, tA204c]) (N := []) (sp := []) (fu := 59) (fa_cons (vUq (fA0 0) (by decide)) (fa_cons (vUq tA0 (by decide)) (fa_cons (vUq tA127 (by decide)) (fa_cons (vUq tA204 (by decide)) (fa_nil))))) (by decide +kernel)
/-- X12_readClause -/
def tA223c : aCt := (186, [aR [314]], [zlb_y0, zlb_y104, zlb_y12, zlb_y18, zlb_y1, zlb_y14, zlb_y15], [(none, [(lLo, lHi)], [zlb_y4]), (none, [(lLo, lHi)], [zlb_y104, zlb_y18, zlb_y16, zlb_y0, zlb_y14, zlb_y15, zlb_y2, zlb_y3]), (none, [(lLo, lHi)], [zlb_y12, zlb_y18, zlb_y117, zlb_y0, zlb_y14, zlb_y15, zlb_y105, zlb_y106, zlb_y107, zlb_y108])], [(314, 10, 12), (314, 28, 30), (321, 32, 36), (323, 4, 6)])
set_option maxRecDepth 100000 in
theorem tA223 : vC tS tRA jM 12 tA223c := chkF_ok (D := 11) (hst := jM_st (by decide +kernel)) (T := [(fA0c 0), tA0c, tA134c, tA193c]) (N := []) (sp := []) (fu := 59) (fa_cons (vUq (fA0 0) (by decide)) (fa_cons (vUq tA0 (by decide)) (fa_cons (vUq tA134 (by decide)) (fa_cons (vUq tA193 (by decide)) (fa_nil))))) (by decide +kernel)
/-- X12_readClause -/
def tA224c : aCt := (186, [aR [314]], [zlb_y0, zlb_y91, zlb_y16, zlb_y18, zlb_y1, zlb_y14, zlb_y15], [(none, [(lLo, lHi)], [zlb_y4]), (none, [(lLo, lHi)], [zlb_y91, zlb_y18, zlb_y52, zlb_y0, zlb_y14, zlb_y15, zlb_y46, zlb_y47]), (none, [(lLo, lHi)], [zlb_y16, zlb_y18, zlb_y104, zlb_y0, zlb_y14, zlb_y15, zlb_y92, zlb_y93, zlb_y94, zlb_y95])], [(314, 10, 12), (314, 28, 30), (321, 28, 32), (323, 6, 8)])
set_option maxRecDepth 100000 in
theorem tA224 : vC tS tRA jM 12 tA224c := chkF_ok (D := 11) (hst := jM_st (by decide +kernel)) (T := [(fA0c 0), tA0c, tA143c, tA182c]) (N := []) (sp := []) (fu := 59) (fa_cons (vUq (fA0 0) (by decide)) (fa_cons (vUq tA0 (by decide)) (fa_cons (vUq tA143 (by decide)) (fa_cons (vUq tA182 (by decide)) (fa_nil))))) (by decide +kernel)
/-- X12_readClause -/
def tA225c : aCt := (186, [aR [314]], [zlb_y0, zlb_y78, zlb_y52, zlb_y18, zlb_y1, zlb_y14, zlb_y15], [(none, [(lLo, lHi)], [zlb_y4]), (none, [(lLo, lHi)], [zlb_y52, zlb_y18, zlb_y91, zlb_y0, zlb_y14, zlb_y15, zlb_y79, zlb_y80, zlb_y81, zlb_y82])], [(314, 10, 12), (314, 28, 29), (321, 24, 28)])
set_option maxRecDepth 100000 in
theorem tA225 : vC tS tRA jM 12 tA225c := chkF_ok (D := 11) (hst := jM_st (by decide +kernel)) (T := [(fA0c 0), tA0c, tA171c]) (N := []) (sp := []) (fu := 57) (fa_cons (vUq (fA0 0) (by decide)) (fa_cons (vUq tA0 (by decide)) (fa_cons (vUq tA171 (by decide)) (fa_nil)))) (by decide +kernel)
/-- X12_readItems -/
def tA226c : aCt := (185, [aR [314], aI 101 101, aR [321], aI 44 44, aR [1003]], zlb_q0, [(none, zlb_l5, [zlb_y0, zlb_y144, zlb_y145, zlb_y146, zlb_y147]), (none, zlb_l5, [zlb_y4])], [(314, 10, 12), (321, 44, 48)])
set_option maxRecDepth 100000 in
theorem tA226 : vC tS tRA jM 11 tA226c := chkF_ok (D := 10) (hst := jM_st (by decide +kernel)) (T := [(fA3c 0), tA26c, tA27c, tA28c, tA29c, tA30c, (fA0c 0), tA35c, tA36c, tA8c, tA37c, tA38c, tA13c, tA14c, tA39c, tA40c, tA41c, tA42c, tA43c, tA45c, tA46c, tA47c, tA48c, tA50c, tA19c, tA0c, tA20c, tA51c, tA52c, tA21c, tA22c, tA53c, tA54c, tA55c, tA56c, tA57c, tA58c, tA59c, tA60c, tA61c, tA62c, tA23c, tA24c, tA63c, tA64c, tA65c, tA66c, tA67c, tA68c, tA69c, tA70c, tA71c, tA72c, tA73c, tA74c, tA75c, tA76c, tA77c, tA78c, tA79c, tA80c, tA81c, tA82c, tA83c, tA84c, tA85c, tA86c, tA87c, tA88c, tA89c, tA90c, tA91c, tA92c, tA93c, tA94c, tA95c, tA96c, tA97c, tA98c, tA99c, tA100c, tA101c, tA102c, tA103c, tA104c]) (N := [(3, [zlb_x0, zlb_x12, zlb_x13, zlb_x38, zlb_x15, zlb_x5], zlb_q0, 9, []),
  (3, [zlb_x0, zlb_x12, zlb_x13, zlb_x38, zlb_x15, zlb_x6], [zlb_y0, zlb_y1, zlb_y148], 8, []),
  (3, [zlb_x0, zlb_x12, zlb_x13, zlb_x38, zlb_x15, zlb_x7], [zlb_y0, zlb_y1, zlb_y148, zlb_y149], 7, []),
  (3, [zlb_x0, zlb_x12, zlb_x13, zlb_x38, zlb_x15, zlb_x11], [zlb_y0, zlb_y1, zlb_y148, zlb_y149, zlb_y150], 6, []),
  (3, [zlb_x0, zlb_x12, zlb_x13, zlb_x38, zlb_x15, zlb_x16], zlb_q101, 5, []),
  (45, [zlb_x0, zlb_x12, zlb_x13, zlb_x38, zlb_x15, zlb_x5, zlb_x8], zlb_q102, 4, []),
  (45, [zlb_x0, zlb_x12, zlb_x13, zlb_x38, zlb_x15, zlb_x5, zlb_x9], zlb_q102, 4, []),
  (45, [zlb_x0, zlb_x12, zlb_x13, zlb_x38, zlb_x15, zlb_x5, zlb_x17], zlb_q102, 4, []),
  (45, [zlb_x0, zlb_x12, zlb_x13, zlb_x38, zlb_x15, zlb_x5, zlb_x18], zlb_q102, 4, []),
  (45, [zlb_x0, zlb_x12, zlb_x13, zlb_x38, zlb_x15, zlb_x5, zlb_x10], zlb_q101, 0, []),
  (45, [zlb_x0, zlb_x12, zlb_x13, zlb_x38, zlb_x15, zlb_x6, zlb_x8], [zlb_y1, zlb_y149, zlb_y150, zlb_y151, zlb_y152], 0, []),
  (45, [zlb_x0, zlb_x12, zlb_x13, zlb_x38, zlb_x15, zlb_x6, zlb_x9], zlb_q103, 3, []),
  (45, [zlb_x0, zlb_x12, zlb_x13, zlb_x38, zlb_x15, zlb_x6, zlb_x17], zlb_q103, 3, []),
  (45, [zlb_x0, zlb_x12, zlb_x13, zlb_x38, zlb_x15, zlb_x6, zlb_x18], zlb_q103, 3, []),
  (45, [zlb_x0, zlb_x12, zlb_x13, zlb_x38, zlb_x15, zlb_x6, zlb_x10], [zlb_y0, zlb_y1, zlb_y149, zlb_y150, zlb_y151, zlb_y144, zlb_y9], 0, []),
  (45, [zlb_x0, zlb_x12, zlb_x13, zlb_x38, zlb_x15, zlb_x7, zlb_x8], zlb_q104, 3, []),
  (45, [zlb_x0, zlb_x12, zlb_x13, zlb_x38, zlb_x15, zlb_x7, zlb_x9], [zlb_y1, zlb_y148, zlb_y150, zlb_y151, zlb_y153], 0, []),
  (45, [zlb_x0, zlb_x12, zlb_x13, zlb_x38, zlb_x15, zlb_x7, zlb_x17], zlb_q104, 3, []),
  (45, [zlb_x0, zlb_x12, zlb_x13, zlb_x38, zlb_x15, zlb_x7, zlb_x18], zlb_q104, 3, []),
  (45, [zlb_x0, zlb_x12, zlb_x13, zlb_x38, zlb_x15, zlb_x7, zlb_x10], [zlb_y0, zlb_y1, zlb_y148, zlb_y150, zlb_y151, zlb_y145, zlb_y9], 0, []),
  (45, [zlb_x0, zlb_x12, zlb_x13, zlb_x38, zlb_x15, zlb_x16, zlb_x8], zlb_q105, 3, []),
  (45, [zlb_x0, zlb_x12, zlb_x13, zlb_x38, zlb_x15, zlb_x16, zlb_x9], zlb_q105, 3, []),
  (45, [zlb_x0, zlb_x12, zlb_x13, zlb_x38, zlb_x15, zlb_x16, zlb_x17], [zlb_y1, zlb_y148, zlb_y149, zlb_y151, zlb_y154], 0, []),
  (45, [zlb_x0, zlb_x12, zlb_x13, zlb_x38, zlb_x15, zlb_x16, zlb_x18], zlb_q105, 3, []),
  (45, [zlb_x0, zlb_x12, zlb_x13, zlb_x38, zlb_x15, zlb_x16, zlb_x10], [zlb_y0, zlb_y1, zlb_y148, zlb_y149, zlb_y151, zlb_y146, zlb_y9], 0, []),
  (45, [zlb_x0, zlb_x12, zlb_x13, zlb_x38, zlb_x15, zlb_x19, zlb_x8], zlb_q106, 3, []),
  (45, [zlb_x0, zlb_x12, zlb_x13, zlb_x38, zlb_x15, zlb_x19, zlb_x9], zlb_q106, 3, []),
  (45, [zlb_x0, zlb_x12, zlb_x13, zlb_x38, zlb_x15, zlb_x19, zlb_x17], zlb_q106, 3, []),
  (45, [zlb_x0, zlb_x12, zlb_x13, zlb_x38, zlb_x15, zlb_x19, zlb_x18], [zlb_y1, zlb_y148, zlb_y149, zlb_y150, zlb_y155], 0, []),
  (45, [zlb_x0, zlb_x12, zlb_x13, zlb_x38, zlb_x15, zlb_x19, zlb_x10], [zlb_y0, zlb_y1, zlb_y148, zlb_y149, zlb_y150, zlb_y147, zlb_y9], 0, []),
  (45, [zlb_x0, zlb_x12, zlb_x13, zlb_x38, zlb_x15, zlb_x11, zlb_x8], [zlb_y1, zlb_y150, zlb_y151, zlb_y152, zlb_y145], 0, []),
  (45, [zlb_x0, zlb_x12, zlb_x13, zlb_x38, zlb_x15, zlb_x11, zlb_x9], [zlb_y1, zlb_y150, zlb_y151, zlb_y144, zlb_y153], 0, []),
  (45, [zlb_x0, zlb_x12, zlb_x13, zlb_x38, zlb_x15, zlb_x11, zlb_x17], zlb_q107, 2, []),
  (45, [zlb_x0, zlb_x12, zlb_x13, zlb_x38, zlb_x15, zlb_x11, zlb_x18], zlb_q107, 2, []),
  (45, [zlb_x0, zlb_x12, zlb_x13, zlb_x38, zlb_x15, zlb_x11, zlb_x10], [zlb_y0, zlb_y1, zlb_y150, zlb_y151, zlb_y144, zlb_y145, zlb_y9], 0, []),
  (45, [zlb_x0, zlb_x12, zlb_x13, zlb_x38, zlb_x15, zlb_x20, zlb_x8], [zlb_y1, zlb_y149, zlb_y151, zlb_y152, zlb_y146], 0, []),
  (45, [zlb_x0, zlb_x12, zlb_x13, zlb_x38, zlb_x15, zlb_x20, zlb_x9], zlb_q108, 2, []),
  (45, [zlb_x0, zlb_x12, zlb_x13, zlb_x38, zlb_x15, zlb_x20, zlb_x17], [zlb_y1, zlb_y149, zlb_y151, zlb_y144, zlb_y154], 0, []),
  (45, [zlb_x0, zlb_x12, zlb_x13, zlb_x38, zlb_x15, zlb_x20, zlb_x18], zlb_q108, 2, []),
  (45, [zlb_x0, zlb_x12, zlb_x13, zlb_x38, zlb_x15, zlb_x20, zlb_x10], [zlb_y0, zlb_y1, zlb_y149, zlb_y151, zlb_y144, zlb_y146, zlb_y9], 0, []),
  (45, [zlb_x0, zlb_x12, zlb_x13, zlb_x38, zlb_x15, zlb_x21, zlb_x8], [zlb_y1, zlb_y149, zlb_y150, zlb_y152, zlb_y147], 0, []),
  (45, [zlb_x0, zlb_x12, zlb_x13, zlb_x38, zlb_x15, zlb_x21, zlb_x9], zlb_q109, 2, []),
  (45, [zlb_x0, zlb_x12, zlb_x13, zlb_x38, zlb_x15, zlb_x21, zlb_x17], zlb_q109, 2, []),
  (45, [zlb_x0, zlb_x12, zlb_x13, zlb_x38, zlb_x15, zlb_x21, zlb_x18], [zlb_y1, zlb_y149, zlb_y150, zlb_y144, zlb_y155], 0, []),
  (45, [zlb_x0, zlb_x12, zlb_x13, zlb_x38, zlb_x15, zlb_x21, zlb_x10], [zlb_y0, zlb_y1, zlb_y149, zlb_y150, zlb_y144, zlb_y147, zlb_y9], 0, []),
  (45, [zlb_x0, zlb_x12, zlb_x13, zlb_x38, zlb_x15, zlb_x22, zlb_x8], zlb_q110, 2, []),
  (45, [zlb_x0, zlb_x12, zlb_x13, zlb_x38, zlb_x15, zlb_x22, zlb_x9], [zlb_y1, zlb_y148, zlb_y151, zlb_y153, zlb_y146], 0, []),
  (45, [zlb_x0, zlb_x12, zlb_x13, zlb_x38, zlb_x15, zlb_x22, zlb_x17], [zlb_y1, zlb_y148, zlb_y151, zlb_y145, zlb_y154], 0, []),
  (45, [zlb_x0, zlb_x12, zlb_x13, zlb_x38, zlb_x15, zlb_x22, zlb_x18], zlb_q110, 2, []),
  (45, [zlb_x0, zlb_x12, zlb_x13, zlb_x38, zlb_x15, zlb_x22, zlb_x10], [zlb_y0, zlb_y1, zlb_y148, zlb_y151, zlb_y145, zlb_y146, zlb_y9], 0, []),
  (45, [zlb_x0, zlb_x12, zlb_x13, zlb_x38, zlb_x15, zlb_x23, zlb_x8], zlb_q111, 2, []),
  (45, [zlb_x0, zlb_x12, zlb_x13, zlb_x38, zlb_x15, zlb_x23, zlb_x9], [zlb_y1, zlb_y148, zlb_y150, zlb_y153, zlb_y147], 0, []),
  (45, [zlb_x0, zlb_x12, zlb_x13, zlb_x38, zlb_x15, zlb_x23, zlb_x17], zlb_q111, 2, []),
  (45, [zlb_x0, zlb_x12, zlb_x13, zlb_x38, zlb_x15, zlb_x23, zlb_x18], [zlb_y1, zlb_y148, zlb_y150, zlb_y145, zlb_y155], 0, []),
  (45, [zlb_x0, zlb_x12, zlb_x13, zlb_x38, zlb_x15, zlb_x23, zlb_x10], [zlb_y0, zlb_y1, zlb_y148, zlb_y150, zlb_y145, zlb_y147, zlb_y9], 0, []),
  (45, [zlb_x0, zlb_x12, zlb_x13, zlb_x38, zlb_x15, zlb_x24, zlb_x8], zlb_q112, 2, []),
  (45, [zlb_x0, zlb_x12, zlb_x13, zlb_x38, zlb_x15, zlb_x24, zlb_x9], zlb_q112, 2, []),
  (45, [zlb_x0, zlb_x12, zlb_x13, zlb_x38, zlb_x15, zlb_x24, zlb_x17], [zlb_y1, zlb_y148, zlb_y149, zlb_y154, zlb_y147], 0, []),
  (45, [zlb_x0, zlb_x12, zlb_x13, zlb_x38, zlb_x15, zlb_x24, zlb_x18], [zlb_y1, zlb_y148, zlb_y149, zlb_y146, zlb_y155], 0, []),
  (45, [zlb_x0, zlb_x12, zlb_x13, zlb_x38, zlb_x15, zlb_x24, zlb_x10], [zlb_y0, zlb_y1, zlb_y148, zlb_y149, zlb_y146, zlb_y147, zlb_y9], 0, []),
  (45, [zlb_x0, zlb_x12, zlb_x13, zlb_x38, zlb_x15, zlb_x25, zlb_x8], [zlb_y1, zlb_y151, zlb_y152, zlb_y145, zlb_y146], 0, []),
  (45, [zlb_x0, zlb_x12, zlb_x13, zlb_x38, zlb_x15, zlb_x25, zlb_x9], [zlb_y1, zlb_y151, zlb_y144, zlb_y153, zlb_y146], 0, []),
  (45, [zlb_x0, zlb_x12, zlb_x13, zlb_x38, zlb_x15, zlb_x25, zlb_x17], [zlb_y1, zlb_y151, zlb_y144, zlb_y145, zlb_y154], 0, []),
  (45, [zlb_x0, zlb_x12, zlb_x13, zlb_x38, zlb_x15, zlb_x25, zlb_x18], [zlb_y0, zlb_y1, zlb_y151, zlb_y144, zlb_y145, zlb_y146, zlb_y7], 1, []),
  (45, [zlb_x0, zlb_x12, zlb_x13, zlb_x38, zlb_x15, zlb_x25, zlb_x10], [zlb_y0, zlb_y1, zlb_y151, zlb_y144, zlb_y145, zlb_y146, zlb_y9], 0, []),
  (45, [zlb_x0, zlb_x12, zlb_x13, zlb_x38, zlb_x15, zlb_x26, zlb_x8], [zlb_y1, zlb_y150, zlb_y152, zlb_y145, zlb_y147], 0, []),
  (45, [zlb_x0, zlb_x12, zlb_x13, zlb_x38, zlb_x15, zlb_x26, zlb_x9], [zlb_y1, zlb_y150, zlb_y144, zlb_y153, zlb_y147], 0, []),
  (45, [zlb_x0, zlb_x12, zlb_x13, zlb_x38, zlb_x15, zlb_x26, zlb_x17], [zlb_y0, zlb_y1, zlb_y150, zlb_y144, zlb_y145, zlb_y147, zlb_y7], 1, []),
  (45, [zlb_x0, zlb_x12, zlb_x13, zlb_x38, zlb_x15, zlb_x26, zlb_x18], [zlb_y1, zlb_y150, zlb_y144, zlb_y145, zlb_y155], 0, []),
  (45, [zlb_x0, zlb_x12, zlb_x13, zlb_x38, zlb_x15, zlb_x26, zlb_x10], [zlb_y0, zlb_y1, zlb_y150, zlb_y144, zlb_y145, zlb_y147, zlb_y9], 0, []),
  (45, [zlb_x0, zlb_x12, zlb_x13, zlb_x38, zlb_x15, zlb_x27, zlb_x8], [zlb_y1, zlb_y149, zlb_y152, zlb_y146, zlb_y147], 0, []),
  (45, [zlb_x0, zlb_x12, zlb_x13, zlb_x38, zlb_x15, zlb_x27, zlb_x9], [zlb_y0, zlb_y1, zlb_y149, zlb_y144, zlb_y146, zlb_y147, zlb_y7], 1, []),
  (45, [zlb_x0, zlb_x12, zlb_x13, zlb_x38, zlb_x15, zlb_x27, zlb_x17], [zlb_y1, zlb_y149, zlb_y144, zlb_y154, zlb_y147], 0, []),
  (45, [zlb_x0, zlb_x12, zlb_x13, zlb_x38, zlb_x15, zlb_x27, zlb_x18], [zlb_y1, zlb_y149, zlb_y144, zlb_y146, zlb_y155], 0, []),
  (45, [zlb_x0, zlb_x12, zlb_x13, zlb_x38, zlb_x15, zlb_x27, zlb_x10], [zlb_y0, zlb_y1, zlb_y149, zlb_y144, zlb_y146, zlb_y147, zlb_y9], 0, []),
  (45, [zlb_x0, zlb_x12, zlb_x13, zlb_x38, zlb_x15, zlb_x28, zlb_x8], [zlb_y0, zlb_y1, zlb_y148, zlb_y145, zlb_y146, zlb_y147, zlb_y7], 1, []),
  (45, [zlb_x0, zlb_x12, zlb_x13, zlb_x38, zlb_x15, zlb_x28, zlb_x9], [zlb_y1, zlb_y148, zlb_y153, zlb_y146, zlb_y147], 0, []),
  (45, [zlb_x0, zlb_x12, zlb_x13, zlb_x38, zlb_x15, zlb_x28, zlb_x17], [zlb_y1, zlb_y148, zlb_y145, zlb_y154, zlb_y147], 0, []),
  (45, [zlb_x0, zlb_x12, zlb_x13, zlb_x38, zlb_x15, zlb_x28, zlb_x18], [zlb_y1, zlb_y148, zlb_y145, zlb_y146, zlb_y155], 0, []),
  (45, [zlb_x0, zlb_x12, zlb_x13, zlb_x38, zlb_x15, zlb_x28, zlb_x10], [zlb_y0, zlb_y1, zlb_y148, zlb_y145, zlb_y146, zlb_y147, zlb_y9], 0, []),
  (45, [zlb_x0, zlb_x12, zlb_x13, zlb_x38, zlb_x15, zlb_x29, zlb_x8], [zlb_y1, zlb_y152, zlb_y145, zlb_y146, zlb_y147], 0, []),
  (45, [zlb_x0, zlb_x12, zlb_x13, zlb_x38, zlb_x15, zlb_x29, zlb_x9], [zlb_y1, zlb_y144, zlb_y153, zlb_y146, zlb_y147], 0, []),
  (45, [zlb_x0, zlb_x12, zlb_x13, zlb_x38, zlb_x15, zlb_x29, zlb_x17], [zlb_y1, zlb_y144, zlb_y145, zlb_y154, zlb_y147], 0, []),
  (45, [zlb_x0, zlb_x12, zlb_x13, zlb_x38, zlb_x15, zlb_x29, zlb_x18], [zlb_y1, zlb_y144, zlb_y145, zlb_y146, zlb_y155], 0, []),
  (45, [zlb_x0, zlb_x12, zlb_x13, zlb_x38, zlb_x15, zlb_x29, zlb_x10], [zlb_y0, zlb_y1, zlb_y144, zlb_y145, zlb_y146, zlb_y147, zlb_y9], 0, [])]) (sp := [(3, 5), (45, 6)]) (fu := 54) (fa_cons (vUq (fA3 0) (by decide)) (fa_cons (vUq tA26 (by decide)) (fa_cons (vUq tA27 (by decide)) (fa_cons (vUq tA28 (by decide)) (fa_cons (vUq tA29 (by decide)) (fa_cons (vUq tA30 (by decide)) (fa_cons (vUq (fA0 0) (by decide)) (fa_cons (vUq tA35 (by decide)) (fa_cons (vUq tA36 (by decide)) (fa_cons (vUq tA8 (by decide)) (fa_cons (vUq tA37 (by decide)) (fa_cons (vUq tA38 (by decide)) (fa_cons (vUq tA13 (by decide)) (fa_cons (vUq tA14 (by decide)) (fa_cons (vUq tA39 (by decide)) (fa_cons (vUq tA40 (by decide)) (fa_cons (vUq tA41 (by decide)) (fa_cons (vUq tA42 (by decide)) (fa_cons (vUq tA43 (by decide)) (fa_cons (vUq tA45 (by decide)) (fa_cons (vUq tA46 (by decide)) (fa_cons (vUq tA47 (by decide)) (fa_cons (vUq tA48 (by decide)) (fa_cons (vUq tA50 (by decide)) (fa_cons (vUq tA19 (by decide)) (fa_cons (vUq tA0 (by decide)) (fa_cons (vUq tA20 (by decide)) (fa_cons (vUq tA51 (by decide)) (fa_cons (vUq tA52 (by decide)) (fa_cons (vUq tA21 (by decide)) (fa_cons (vUq tA22 (by decide)) (fa_cons (vUq tA53 (by decide)) (fa_cons (vUq tA54 (by decide)) (fa_cons (vUq tA55 (by decide)) (fa_cons (vUq tA56 (by decide)) (fa_cons (vUq tA57 (by decide)) (fa_cons (vUq tA58 (by decide)) (fa_cons (vUq tA59 (by decide)) (fa_cons (vUq tA60 (by decide)) (fa_cons (vUq tA61 (by decide)) (fa_cons (vUq tA62 (by decide)) (fa_cons (vUq tA23 (by decide)) (fa_cons (vUq tA24 (by decide)) (fa_cons (vUq tA63 (by decide)) (fa_cons (vUq tA64 (by decide)) (fa_cons (vUq tA65 (by decide)) (fa_cons (vUq tA66 (by decide)) (fa_cons (vUq tA67 (by decide)) (fa_cons (vUq tA68 (by decide)) (fa_cons (vUq tA69 (by decide)) (fa_cons (vUq tA70 (by decide)) (fa_cons (vUq tA71 (by decide)) (fa_cons (vUq tA72 (by decide)) (fa_cons (vUq tA73 (by decide)) (fa_cons (vUq tA74 (by decide)) (fa_cons (vUq tA75 (by decide)) (fa_cons (vUq tA76 (by decide)) (fa_cons (vUq tA77 (by decide)) (fa_cons (vUq tA78 (by decide)) (fa_cons (vUq tA79 (by decide)) (fa_cons (vUq tA80 (by decide)) (fa_cons (vUq tA81 (by decide)) (fa_cons (vUq tA82 (by decide)) (fa_cons (vUq tA83 (by decide)) (fa_cons (vUq tA84 (by decide)) (fa_cons (vUq tA85 (by decide)) (fa_cons (vUq tA86 (by decide)) (fa_cons (vUq tA87 (by decide)) (fa_cons (vUq tA88 (by decide)) (fa_cons (vUq tA89 (by decide)) (fa_cons (vUq tA90 (by decide)) (fa_cons (vUq tA91 (by decide)) (fa_cons (vUq tA92 (by decide)) (fa_cons (vUq tA93 (by decide)) (fa_cons (vUq tA94 (by decide)) (fa_cons (vUq tA95 (by decide)) (fa_cons (vUq tA96 (by decide)) (fa_cons (vUq tA97 (by decide)) (fa_cons (vUq tA98 (by decide)) (fa_cons (vUq tA99 (by decide)) (fa_cons (vUq tA100 (by decide)) (fa_cons (vUq tA101 (by decide)) (fa_cons (vUq tA102 (by decide)) (fa_cons (vUq tA103 (by decide)) (fa_cons (vUq tA104 (by decide)) (fa_nil)))))))))))))))))))))))))))))))))))))))))))))))))))))))))))))))))))))))))))))))))))))) (by decide +kernel)
/-- X12_readClause -/
def tA227c : aCt := (186, [aR [314]], [zlb_y0, zlb_y143, zlb_y20, zlb_y13, zlb_y1, zlb_y14, zlb_y15], [(none, [(lLo, lHi)], [zlb_y4]), (none, [(lLo, lHi)], ([zlb_y143, zlb_y13, zlb_y21, zlb_y0, zlb_y14, zlb_y15] ++ ([] ++ fkF 1))), (none, [(lLo, lHi)], [zlb_y20, zlb_y13, zlb_y156, zlb_y0, zlb_y14, zlb_y15, zlb_y144, zlb_y145, zlb_y146, zlb_y147]), (none, [(lLo, lHi)], [zlb_y143, zlb_y20, zlb_y18, zlb_y0, zlb_y14, zlb_y15])], [(314, 10, 12), (314, 28, 30), (314, 31, 32), (319, 0, 2), (321, 44, 48), (323, 0, 2)])
set_option maxRecDepth 100000 in
theorem tA227 : vC tS tRA jM 12 tA227c := chkF_ok (D := 11) (hst := jM_st (by decide +kernel)) (T := [(fA0c 0), tA0c, tA25c, tA226c, tA121c]) (N := []) (sp := []) (fu := 59) (fa_cons (vUq (fA0 0) (by decide)) (fa_cons (vUq tA0 (by decide)) (fa_cons (vUq tA25 (by decide)) (fa_cons (vUq tA226 (by decide)) (fa_cons (vUq tA121 (by decide)) (fa_nil)))))) (by decide +kernel)
/-- X12_readClause -/
def tA228c : aCt := (186, [aR [314]], [zlb_y0, zlb_y130, zlb_y21, zlb_y13, zlb_y1, zlb_y14, zlb_y15], [(none, [(lLo, lHi)], [zlb_y4]), (none, [(lLo, lHi)], [zlb_y130, zlb_y13, zlb_y12, zlb_y0, zlb_y14, zlb_y15, zlb_y27, zlb_y28]), (none, [(lLo, lHi)], [zlb_y21, zlb_y13, zlb_y143, zlb_y0, zlb_y14, zlb_y15, zlb_y131, zlb_y132, zlb_y133, zlb_y134]), (none, [(lLo, lHi)], [zlb_y130, zlb_y21, zlb_y18, zlb_y0, zlb_y14, zlb_y15])], [(314, 10, 12), (314, 28, 30), (314, 31, 32), (319, 0, 2), (321, 40, 44), (323, 2, 4)])
set_option maxRecDepth 100000 in
theorem tA228 : vC tS tRA jM 12 tA228c := chkF_ok (D := 11) (hst := jM_st (by decide +kernel)) (T := [(fA0c 0), tA0c, tA127c, tA215c, tA121c]) (N := []) (sp := []) (fu := 59) (fa_cons (vUq (fA0 0) (by decide)) (fa_cons (vUq tA0 (by decide)) (fa_cons (vUq tA127 (by decide)) (fa_cons (vUq tA215 (by decide)) (fa_cons (vUq tA121 (by decide)) (fa_nil)))))) (by decide +kernel)
/-- X12_readClause -/
def tA229c : aCt := (186, [aR [314]], [zlb_y0, zlb_y117, zlb_y12, zlb_y13, zlb_y1, zlb_y14, zlb_y15], [(none, [(lLo, lHi)], [zlb_y4]), (none, [(lLo, lHi)], [zlb_y117, zlb_y13, zlb_y16, zlb_y0, zlb_y14, zlb_y15, zlb_y2, zlb_y3]), (none, [(lLo, lHi)], [zlb_y12, zlb_y13, zlb_y130, zlb_y0, zlb_y14, zlb_y15, zlb_y118, zlb_y119, zlb_y120, zlb_y121]), (none, [(lLo, lHi)], [zlb_y117, zlb_y12, zlb_y18, zlb_y0, zlb_y14, zlb_y15])], [(314, 10, 12), (314, 28, 30), (314, 31, 32), (319, 0, 2), (321, 36, 40), (323, 4, 6)])
set_option maxRecDepth 100000 in
theorem tA229 : vC tS tRA jM 12 tA229c := chkF_ok (D := 11) (hst := jM_st (by decide +kernel)) (T := [(fA0c 0), tA0c, tA134c, tA204c, tA121c]) (N := []) (sp := []) (fu := 59) (fa_cons (vUq (fA0 0) (by decide)) (fa_cons (vUq tA0 (by decide)) (fa_cons (vUq tA134 (by decide)) (fa_cons (vUq tA204 (by decide)) (fa_cons (vUq tA121 (by decide)) (fa_nil)))))) (by decide +kernel)
/-- X12_readClause -/
def tA230c : aCt := (186, [aR [314]], [zlb_y0, zlb_y104, zlb_y16, zlb_y13, zlb_y1, zlb_y14, zlb_y15], [(none, [(lLo, lHi)], [zlb_y4]), (none, [(lLo, lHi)], [zlb_y104, zlb_y13, zlb_y52, zlb_y0, zlb_y14, zlb_y15, zlb_y46, zlb_y47]), (none, [(lLo, lHi)], [zlb_y16, zlb_y13, zlb_y117, zlb_y0, zlb_y14, zlb_y15, zlb_y105, zlb_y106, zlb_y107, zlb_y108]), (none, [(lLo, lHi)], [zlb_y104, zlb_y16, zlb_y18, zlb_y0, zlb_y14, zlb_y15])], [(314, 10, 12), (314, 28, 30), (314, 31, 32), (319, 0, 2), (321, 32, 36), (323, 6, 8)])
set_option maxRecDepth 100000 in
theorem tA230 : vC tS tRA jM 12 tA230c := chkF_ok (D := 11) (hst := jM_st (by decide +kernel)) (T := [(fA0c 0), tA0c, tA143c, tA193c, tA121c]) (N := []) (sp := []) (fu := 59) (fa_cons (vUq (fA0 0) (by decide)) (fa_cons (vUq tA0 (by decide)) (fa_cons (vUq tA143 (by decide)) (fa_cons (vUq tA193 (by decide)) (fa_cons (vUq tA121 (by decide)) (fa_nil)))))) (by decide +kernel)
/-- X12_readClause -/
def tA231c : aCt := (186, [aR [314]], [zlb_y0, zlb_y91, zlb_y52, zlb_y13, zlb_y1, zlb_y14, zlb_y15], [(none, [(lLo, lHi)], [zlb_y4]), (none, [(lLo, lHi)], [zlb_y52, zlb_y13, zlb_y104, zlb_y0, zlb_y14, zlb_y15, zlb_y92, zlb_y93, zlb_y94, zlb_y95]), (none, [(lLo, lHi)], [zlb_y91, zlb_y52, zlb_y18, zlb_y0, zlb_y14, zlb_y15])], [(314, 10, 12), (314, 28, 29), (314, 31, 32), (319, 0, 2), (321, 28, 32)])
set_option maxRecDepth 100000 in
theorem tA231 : vC tS tRA jM 12 tA231c := chkF_ok (D := 11) (hst := jM_st (by decide +kernel)) (T := [(fA0c 0), tA0c, tA182c, tA121c]) (N := []) (sp := []) (fu := 57) (fa_cons (vUq (fA0 0) (by decide)) (fa_cons (vUq tA0 (by decide)) (fa_cons (vUq tA182 (by decide)) (fa_cons (vUq tA121 (by decide)) (fa_nil))))) (by decide +kernel)
/-- X12_readClause -/
def tA232c : aCt := (186, [aR [314]], [zlb_y0, zlb_y143, zlb_y20, zlb_y18, zlb_y1, zlb_y14, zlb_y15], [(none, [(lLo, lHi)], [zlb_y4]), (none, [(lLo, lHi)], ([zlb_y143, zlb_y18, zlb_y21, zlb_y0, zlb_y14, zlb_y15] ++ ([] ++ fkF 1))), (none, [(lLo, lHi)], [zlb_y20, zlb_y18, zlb_y156, zlb_y0, zlb_y14, zlb_y15, zlb_y144, zlb_y145, zlb_y146, zlb_y147])], [(314, 10, 12), (314, 28, 30), (321, 44, 48), (323, 0, 2)])
set_option maxRecDepth 100000 in
theorem tA232 : vC tS tRA jM 12 tA232c := chkF_ok (D := 11) (hst := jM_st (by decide +kernel)) (T := [(fA0c 0), tA0c, tA25c, tA226c]) (N := []) (sp := []) (fu := 59) (fa_cons (vUq (fA0 0) (by decide)) (fa_cons (vUq tA0 (by decide)) (fa_cons (vUq tA25 (by decide)) (fa_cons (vUq tA226 (by decide)) (fa_nil))))) (by decide +kernel)
/-- X12_readClause -/
def tA233c : aCt := (186, [aR [314]], [zlb_y0, zlb_y130, zlb_y21, zlb_y18, zlb_y1, zlb_y14, zlb_y15], [(none, [(lLo, lHi)], [zlb_y4]), (none, [(lLo, lHi)], [zlb_y130, zlb_y18, zlb_y12, zlb_y0, zlb_y14, zlb_y15, zlb_y27, zlb_y28]), (none, [(lLo, lHi)], [zlb_y21, zlb_y18, zlb_y143, zlb_y0, zlb_y14, zlb_y15, zlb_y131, zlb_y132, zlb_y133, zlb_y134])], [(314, 10, 12), (314, 28, 30), (321, 40, 44), (323, 2, 4)])
set_option maxRecDepth 100000 in
theorem tA233 : vC tS tRA jM 12 tA233c := chkF_ok (D := 11) (hst := jM_st (by decide +kernel)) (T := [(fA0c 0), tA0c, tA127c, tA215c]) (N := []) (sp := []) (fu := 59) (fa_cons (vUq (fA0 0) (by decide)) (fa_cons (vUq tA0 (by decide)) (fa_cons (vUq tA127 (by decide)) (fa_cons (vUq tA215 (by decide)) (fa_nil))))) (by decide +kernel)
/-- X12_readClause -/
def tA234c : aCt := (186, [aR [314]], [zlb_y0, zlb_y117, zlb_y12, zlb_y18, zlb_y1, zlb_y14, zlb_y15], [(none, [(lLo, lHi)], [zlb_y4]), (none, [(lLo, lHi)], [zlb_y117, zlb_y18, zlb_y16, zlb_y0, zlb_y14, zlb_y15, zlb_y2, zlb_y3]), (none, [(lLo, lHi)], [zlb_y12, zlb_y18, zlb_y130, zlb_y0, zlb_y14, zlb_y15, zlb_y118, zlb_y119, zlb_y120, zlb_y121])], [(314, 10, 12), (314, 28, 30), (321, 36, 40), (323, 4, 6)])
set_option maxRecDepth 100000 in
theorem tA234 : vC tS tRA jM 12 tA234c := chkF_ok (D := 11) (hst := jM_st (by decide +kernel)) (T := [(fA0c 0), tA0c, tA134c, tA204c]) (N := []) (sp := []) (fu := 59) (fa_cons (vUq (fA0 0) (by decide)) (fa_cons (vUq tA0 (by decide)) (fa_cons (vUq tA134 (by decide)) (fa_cons (vUq tA204 (by decide)) (fa_nil))))) (by decide +kernel)
/-- X12_readClause -/
def tA235c : aCt := (186, [aR [314]], [zlb_y0, zlb_y104, zlb_y16, zlb_y18, zlb_y1, zlb_y14, zlb_y15], [(none, [(lLo, lHi)], [zlb_y4]), (none, [(lLo, lHi)], [zlb_y104, zlb_y18, zlb_y52, zlb_y0, zlb_y14, zlb_y15, zlb_y46, zlb_y47]), (none, [(lLo, lHi)], [zlb_y16, zlb_y18, zlb_y117, zlb_y0, zlb_y14, zlb_y15, zlb_y105, zlb_y106, zlb_y107, zlb_y108])], [(314, 10, 12), (314, 28, 30), (321, 32, 36), (323, 6, 8)])
set_option maxRecDepth 100000 in
theorem tA235 : vC tS tRA jM 12 tA235c := chkF_ok (D := 11) (hst := jM_st (by decide +kernel)) (T := [(fA0c 0), tA0c, tA143c, tA193c]) (N := []) (sp := []) (fu := 59) (fa_cons (vUq (fA0 0) (by decide)) (fa_cons (vUq tA0 (by decide)) (fa_cons (vUq tA143 (by decide)) (fa_cons (vUq tA193 (by decide)) (fa_nil))))) (by decide +kernel)
/-- X12_readClause -/
def tA236c : aCt := (186, [aR [314]], [zlb_y0, zlb_y91, zlb_y52, zlb_y18, zlb_y1, zlb_y14, zlb_y15], [(none, [(lLo, lHi)], [zlb_y4]), (none, [(lLo, lHi)], [zlb_y52, zlb_y18, zlb_y104, zlb_y0, zlb_y14, zlb_y15, zlb_y92, zlb_y93, zlb_y94, zlb_y95])], [(314, 10, 12), (314, 28, 29), (321, 28, 32)])
set_option maxRecDepth 100000 in
theorem tA236 : vC tS tRA jM 12 tA236c := chkF_ok (D := 11) (hst := jM_st (by decide +kernel)) (T := [(fA0c 0), tA0c, tA182c]) (N := []) (sp := []) (fu := 57) (fa_cons (vUq (fA0 0) (by decide)) (fa_cons (vUq tA0 (by decide)) (fa_cons (vUq tA182 (by decide)) (fa_nil)))) (by decide +kernel)
/-- X12_readClause -/
def tA237c : aCt := (186, [aR [314]], [zlb_y0, zlb_y156, zlb_y20, zlb_y13, zlb_y1, zlb_y14, zlb_y15], [(none, [(lLo, lHi)], [zlb_y4]), (none, [(lLo, lHi)], ([zlb_y156, zlb_y13, zlb_y21, zlb_y0, zlb_y14, zlb_y15] ++ ([] ++ fkF 1))), (none, [(lLo, lHi)], [zlb_y156, zlb_y20, zlb_y18, zlb_y0, zlb_y14, zlb_y15])], [(314, 10, 12), (314, 29, 30), (314, 31, 32), (319, 0, 2), (323, 0, 2)])
set_option maxRecDepth 100000 in
theorem tA237 : vC tS tRA jM 12 tA237c := chkF_ok (D := 11) (hst := jM_st (by decide +kernel)) (T := [(fA0c 0), tA0c, tA25c, tA121c]) (N := []) (sp := []) (fu := 59) (fa_cons (vUq (fA0 0) (by decide)) (fa_cons (vUq tA0 (by decide)) (fa_cons (vUq tA25 (by decide)) (fa_cons (vUq tA121 (by decide)) (fa_nil))))) (by decide +kernel)
/-- X12_readClause -/
def tA238c : aCt := (186, [aR [314]], [zlb_y0, zlb_y143, zlb_y21, zlb_y13, zlb_y1, zlb_y14, zlb_y15], [(none, [(lLo, lHi)], [zlb_y4]), (none, [(lLo, lHi)], [zlb_y143, zlb_y13, zlb_y12, zlb_y0, zlb_y14, zlb_y15, zlb_y27, zlb_y28]), (none, [(lLo, lHi)], [zlb_y21, zlb_y13, zlb_y156, zlb_y0, zlb_y14, zlb_y15, zlb_y144, zlb_y145, zlb_y146, zlb_y147]), (none, [(lLo, lHi)], [zlb_y143, zlb_y21, zlb_y18, zlb_y0, zlb_y14, zlb_y15])], [(314, 10, 12), (314, 28, 30), (314, 31, 32), (319, 0, 2), (321, 44, 48), (323, 2, 4)])
set_option maxRecDepth 100000 in
theorem tA238 : vC tS tRA jM 12 tA238c := chkF_ok (D := 11) (hst := jM_st (by decide +kernel)) (T := [(fA0c 0), tA0c, tA127c, tA226c, tA121c]) (N := []) (sp := []) (fu := 59) (fa_cons (vUq (fA0 0) (by decide)) (fa_cons (vUq tA0 (by decide)) (fa_cons (vUq tA127 (by decide)) (fa_cons (vUq tA226 (by decide)) (fa_cons (vUq tA121 (by decide)) (fa_nil)))))) (by decide +kernel)
/-- X12_readClause -/
def tA239c : aCt := (186, [aR [314]], [zlb_y0, zlb_y130, zlb_y12, zlb_y13, zlb_y1, zlb_y14, zlb_y15], [(none, [(lLo, lHi)], [zlb_y4]), (none, [(lLo, lHi)], [zlb_y130, zlb_y13, zlb_y16, zlb_y0, zlb_y14, zlb_y15, zlb_y2, zlb_y3]), (none, [(lLo, lHi)], [zlb_y12, zlb_y13, zlb_y143, zlb_y0, zlb_y14, zlb_y15, zlb_y131, zlb_y132, zlb_y133, zlb_y134]), (none, [(lLo, lHi)], [zlb_y130, zlb_y12, zlb_y18, zlb_y0, zlb_y14, zlb_y15])], [(314, 10, 12), (314, 28, 30), (314, 31, 32), (319, 0, 2), (321, 40, 44), (323, 4, 6)])
set_option maxRecDepth 100000 in
theorem tA239 : vC tS tRA jM 12 tA239c := chkF_ok (D := 11) (hst := jM_st (by decide +kernel)) (T := [(fA0c 0), tA0c, tA134c, tA215c, tA121c]) (N := []) (sp := []) (fu := 59) (fa_cons (vUq (fA0 0) (by decide)) (fa_cons (vUq tA0 (by decide)) (fa_cons (vUq tA134 (by decide)) (fa_cons (vUq tA215 (by decide)) (fa_cons (vUq tA121 (by decide)) (fa_nil)))))) (by decide +kernel)
/-- X12_readClause -/
def tA240c : aCt := (186, [aR [314]], [zlb_y0, zlb_y117, zlb_y16, zlb_y13, zlb_y1, zlb_y14, zlb_y15], [(none, [(lLo, lHi)], [zlb_y4]), (none, [(lLo, lHi)], [zlb_y117, zlb_y13, zlb_y52, zlb_y0, zlb_y14, zlb_y15, zlb_y46, zlb_y47]), (none, [(lLo, lHi)], [zlb_y16, zlb_y13, zlb_y130, zlb_y0, zlb_y14, zlb_y15, zlb_y118, zlb_y119, zlb_y120, zlb_y121]), (none, [(lLo, lHi)], [zlb_y117, zlb_y16, zlb_y18, zlb_y0, zlb_y14, zlb_y15])], [(314, 10, 12), (314, 28, 30), (314, 31, 32), (319, 0, 2), (321, 36, 40), (323, 6, 8)])
set_option maxRecDepth 100000 in
theorem tA240 : vC tS tRA jM 12 tA240c := chkF_ok (D := 11) (hst := jM_st (by decide +kernel)) (T := [(fA0c 0), tA0c, tA143c, tA204c, tA121c]) (N := []) (sp := []) (fu := 59) (fa_cons (vUq (fA0 0) (by decide)) (fa_cons (vUq tA0 (by decide)) (fa_cons (vUq tA143 (by decide)) (fa_cons (vUq tA204 (by decide)) (fa_cons (vUq tA121 (by decide)) (fa_nil)))))) (by decide +kernel)
/-- X12_readClause -/
def tA241c : aCt := (186, [aR [314]], [zlb_y0, zlb_y104, zlb_y52, zlb_y13, zlb_y1, zlb_y14, zlb_y15], [(none, [(lLo, lHi)], [zlb_y4]), (none, [(lLo, lHi)], [zlb_y52, zlb_y13, zlb_y117, zlb_y0, zlb_y14, zlb_y15, zlb_y105, zlb_y106, zlb_y107, zlb_y108]), (none, [(lLo, lHi)], [zlb_y104, zlb_y52, zlb_y18, zlb_y0, zlb_y14, zlb_y15])], [(314, 10, 12), (314, 28, 29), (314, 31, 32), (319, 0, 2), (321, 32, 36)])
set_option maxRecDepth 100000 in
theorem tA241 : vC tS tRA jM 12 tA241c := chkF_ok (D := 11) (hst := jM_st (by decide +kernel)) (T := [(fA0c 0), tA0c, tA193c, tA121c]) (N := []) (sp := []) (fu := 57) (fa_cons (vUq (fA0 0) (by decide)) (fa_cons (vUq tA0 (by decide)) (fa_cons (vUq tA193 (by decide)) (fa_cons (vUq tA121 (by decide)) (fa_nil))))) (by decide +kernel)
/-- X12_readClause -/
def tA242c : aCt := (186, [aR [314]], [zlb_y0, zlb_y156, zlb_y20, zlb_y18, zlb_y1, zlb_y14, zlb_y15], [(none, [(lLo, lHi)], [zlb_y4]), (none, [(lLo, lHi)], ([zlb_y156, zlb_y18, zlb_y21, zlb_y0, zlb_y14, zlb_y15] ++ ([] ++ fkF 1)))], [(314, 10, 12), (314, 29, 30), (323, 0, 2)])
set_option maxRecDepth 100000 in
theorem tA242 : vC tS tRA jM 12 tA242c := chkF_ok (D := 11) (hst := jM_st (by decide +kernel)) (T := [(fA0c 0), tA0c, tA25c]) (N := []) (sp := []) (fu := 59) (fa_cons (vUq (fA0 0) (by decide)) (fa_cons (vUq tA0 (by decide)) (fa_cons (vUq tA25 (by decide)) (fa_nil)))) (by decide +kernel)
/-- X12_readClause -/
def tA243c : aCt := (186, [aR [314]], [zlb_y0, zlb_y143, zlb_y21, zlb_y18, zlb_y1, zlb_y14, zlb_y15], [(none, [(lLo, lHi)], [zlb_y4]), (none, [(lLo, lHi)], [zlb_y143, zlb_y18, zlb_y12, zlb_y0, zlb_y14, zlb_y15, zlb_y27, zlb_y28]), (none, [(lLo, lHi)], [zlb_y21, zlb_y18, zlb_y156, zlb_y0, zlb_y14, zlb_y15, zlb_y144, zlb_y145, zlb_y146, zlb_y147])], [(314, 10, 12), (314, 28, 30), (321, 44, 48), (323, 2, 4)])
set_option maxRecDepth 100000 in
theorem tA243 : vC tS tRA jM 12 tA243c := chkF_ok (D := 11) (hst := jM_st (by decide +kernel)) (T := [(fA0c 0), tA0c, tA127c, tA226c]) (N := []) (sp := []) (fu := 59) (fa_cons (vUq (fA0 0) (by decide)) (fa_cons (vUq tA0 (by decide)) (fa_cons (vUq tA127 (by decide)) (fa_cons (vUq tA226 (by decide)) (fa_nil))))) (by decide +kernel)
/-- X12_readClause -/
def tA244c : aCt := (186, [aR [314]], [zlb_y0, zlb_y130, zlb_y12, zlb_y18, zlb_y1, zlb_y14, zlb_y15], [(none, [(lLo, lHi)], [zlb_y4]), (none, [(lLo, lHi)], [zlb_y130, zlb_y18, zlb_y16, zlb_y0, zlb_y14, zlb_y15, zlb_y2, zlb_y3]), (none, [(lLo, lHi)], [zlb_y12, zlb_y18, zlb_y143, zlb_y0, zlb_y14, zlb_y15, zlb_y131, zlb_y132, zlb_y133, zlb_y134])], [(314, 10, 12), (314, 28, 30), (321, 40, 44), (323, 4, 6)])
set_option maxRecDepth 100000 in
theorem tA244 : vC tS tRA jM 12 tA244c := chkF_ok (D := 11) (hst := jM_st (by decide +kernel)) (T := [(fA0c 0), tA0c, tA134c, tA215c]) (N := []) (sp := []) (fu := 59) (fa_cons (vUq (fA0 0) (by decide)) (fa_cons (vUq tA0 (by decide)) (fa_cons (vUq tA134 (by decide)) (fa_cons (vUq tA215 (by decide)) (fa_nil))))) (by decide +kernel)
/-- X12_readClause -/
def tA245c : aCt := (186, [aR [314]], [zlb_y0, zlb_y117, zlb_y16, zlb_y18, zlb_y1, zlb_y14, zlb_y15], [(none, [(lLo, lHi)], [zlb_y4]), (none, [(lLo, lHi)], [zlb_y117, zlb_y18, zlb_y52, zlb_y0, zlb_y14, zlb_y15, zlb_y46, zlb_y47]), (none, [(lLo, lHi)], [zlb_y16, zlb_y18, zlb_y130, zlb_y0, zlb_y14, zlb_y15, zlb_y118, zlb_y119, zlb_y120, zlb_y121])], [(314, 10, 12), (314, 28, 30), (321, 36, 40), (323, 6, 8)])
set_option maxRecDepth 100000 in
theorem tA245 : vC tS tRA jM 12 tA245c := chkF_ok (D := 11) (hst := jM_st (by decide +kernel)) (T := [(fA0c 0), tA0c, tA143c, tA204c]) (N := []) (sp := []) (fu := 59) (fa_cons (vUq (fA0 0) (by decide)) (fa_cons (vUq tA0 (by decide)) (fa_cons (vUq tA143 (by decide)) (fa_cons (vUq tA204 (by decide)) (fa_nil))))) (by decide +kernel)
/-- X12_readClause -/
def tA246c : aCt := (186, [aR [314]], [zlb_y0, zlb_y104, zlb_y52, zlb_y18, zlb_y1, zlb_y14, zlb_y15], [(none, [(lLo, lHi)], [zlb_y4]), (none, [(lLo, lHi)], [zlb_y52, zlb_y18, zlb_y117, zlb_y0, zlb_y14, zlb_y15, zlb_y105, zlb_y106, zlb_y107, zlb_y108])], [(314, 10, 12), (314, 28, 29), (321, 32, 36)])
set_option maxRecDepth 100000 in
theorem tA246 : vC tS tRA jM 12 tA246c := chkF_ok (D := 11) (hst := jM_st (by decide +kernel)) (T := [(fA0c 0), tA0c, tA193c]) (N := []) (sp := []) (fu := 57) (fa_cons (vUq (fA0 0) (by decide)) (fa_cons (vUq tA0 (by decide)) (fa_cons (vUq tA193 (by decide)) (fa_nil)))) (by decide +kernel)
/-- X12_readClause -/
def tA247c : aCt := (186, [aR [314]], [zlb_y0, zlb_y156, zlb_y21, zlb_y13, zlb_y1, zlb_y14, zlb_y15], [(none, [(lLo, lHi)], [zlb_y4]), (none, [(lLo, lHi)], [zlb_y156, zlb_y13, zlb_y12, zlb_y0, zlb_y14, zlb_y15, zlb_y27, zlb_y28]), (none, [(lLo, lHi)], [zlb_y156, zlb_y21, zlb_y18, zlb_y0, zlb_y14, zlb_y15])], [(314, 10, 12), (314, 29, 30), (314, 31, 32), (319, 0, 2), (323, 2, 4)])
set_option maxRecDepth 100000 in
theorem tA247 : vC tS tRA jM 12 tA247c := chkF_ok (D := 11) (hst := jM_st (by decide +kernel)) (T := [(fA0c 0), tA0c, tA127c, tA121c]) (N := []) (sp := []) (fu := 59) (fa_cons (vUq (fA0 0) (by decide)) (fa_cons (vUq tA0 (by decide)) (fa_cons (vUq tA127 (by decide)) (fa_cons (vUq tA121 (by decide)) (fa_nil))))) (by decide +kernel)
/-- X12_readClause -/
def tA248c : aCt := (186, [aR [314]], [zlb_y0, zlb_y143, zlb_y12, zlb_y13, zlb_y1, zlb_y14, zlb_y15], [(none, [(lLo, lHi)], [zlb_y4]), (none, [(lLo, lHi)], [zlb_y143, zlb_y13, zlb_y16, zlb_y0, zlb_y14, zlb_y15, zlb_y2, zlb_y3]), (none, [(lLo, lHi)], [zlb_y12, zlb_y13, zlb_y156, zlb_y0, zlb_y14, zlb_y15, zlb_y144, zlb_y145, zlb_y146, zlb_y147]), (none, [(lLo, lHi)], [zlb_y143, zlb_y12, zlb_y18, zlb_y0, zlb_y14, zlb_y15])], [(314, 10, 12), (314, 28, 30), (314, 31, 32), (319, 0, 2), (321, 44, 48), (323, 4, 6)])
set_option maxRecDepth 100000 in
theorem tA248 : vC tS tRA jM 12 tA248c := chkF_ok (D := 11) (hst := jM_st (by decide +kernel)) (T := [(fA0c 0), tA0c, tA134c, tA226c, tA121c]) (N := []) (sp := []) (fu := 59) (fa_cons (vUq (fA0 0) (by decide)) (fa_cons (vUq tA0 (by decide)) (fa_cons (vUq tA134 (by decide)) (fa_cons (vUq tA226 (by decide)) (fa_cons (vUq tA121 (by decide)) (fa_nil)))))) (by decide +kernel)
/-- X12_readClause -/
def tA249c : aCt := (186, [aR [314]], [zlb_y0, zlb_y130, zlb_y16, zlb_y13, zlb_y1, zlb_y14, zlb_y15], [(none, [(lLo, lHi)], [zlb_y4]), (none, [(lLo, lHi)], [zlb_y130, zlb_y13, zlb_y52, zlb_y0, zlb_y14, zlb_y15, zlb_y46, zlb_y47]), (none, [(lLo, lHi)], [zlb_y16, zlb_y13, zlb_y143, zlb_y0, zlb_y14, zlb_y15, zlb_y131, zlb_y132, zlb_y133, zlb_y134]), (none, [(lLo, lHi)], [zlb_y130, zlb_y16, zlb_y18, zlb_y0, zlb_y14, zlb_y15])], [(314, 10, 12), (314, 28, 30), (314, 31, 32), (319, 0, 2), (321, 40, 44), (323, 6, 8)])
set_option maxRecDepth 100000 in
theorem tA249 : vC tS tRA jM 12 tA249c := chkF_ok (D := 11) (hst := jM_st (by decide +kernel)) (T := [(fA0c 0), tA0c, tA143c, tA215c, tA121c]) (N := []) (sp := []) (fu := 59) (fa_cons (vUq (fA0 0) (by decide)) (fa_cons (vUq tA0 (by decide)) (fa_cons (vUq tA143 (by decide)) (fa_cons (vUq tA215 (by decide)) (fa_cons (vUq tA121 (by decide)) (fa_nil)))))) (by decide +kernel)
/-- X12_readClause -/
def tA250c : aCt := (186, [aR [314]], [zlb_y0, zlb_y117, zlb_y52, zlb_y13, zlb_y1, zlb_y14, zlb_y15], [(none, [(lLo, lHi)], [zlb_y4]), (none, [(lLo, lHi)], [zlb_y52, zlb_y13, zlb_y130, zlb_y0, zlb_y14, zlb_y15, zlb_y118, zlb_y119, zlb_y120, zlb_y121]), (none, [(lLo, lHi)], [zlb_y117, zlb_y52, zlb_y18, zlb_y0, zlb_y14, zlb_y15])], [(314, 10, 12), (314, 28, 29), (314, 31, 32), (319, 0, 2), (321, 36, 40)])
set_option maxRecDepth 100000 in
theorem tA250 : vC tS tRA jM 12 tA250c := chkF_ok (D := 11) (hst := jM_st (by decide +kernel)) (T := [(fA0c 0), tA0c, tA204c, tA121c]) (N := []) (sp := []) (fu := 57) (fa_cons (vUq (fA0 0) (by decide)) (fa_cons (vUq tA0 (by decide)) (fa_cons (vUq tA204 (by decide)) (fa_cons (vUq tA121 (by decide)) (fa_nil))))) (by decide +kernel)
/-- X12_readClause -/
def tA251c : aCt := (186, [aR [314]], [zlb_y0, zlb_y156, zlb_y21, zlb_y18, zlb_y1, zlb_y14, zlb_y15], [(none, [(lLo, lHi)], [zlb_y4]), (none, [(lLo, lHi)], [zlb_y156, zlb_y18, zlb_y12, zlb_y0, zlb_y14, zlb_y15, zlb_y27, zlb_y28])], [(314, 10, 12), (314, 29, 30), (323, 2, 4)])
set_option maxRecDepth 100000 in
theorem tA251 : vC tS tRA jM 12 tA251c := chkF_ok (D := 11) (hst := jM_st (by decide +kernel)) (T := [(fA0c 0), tA0c, tA127c]) (N := []) (sp := []) (fu := 59) (fa_cons (vUq (fA0 0) (by decide)) (fa_cons (vUq tA0 (by decide)) (fa_cons (vUq tA127 (by decide)) (fa_nil)))) (by decide +kernel)
/-- X12_readClause -/
def tA252c : aCt := (186, [aR [314]], [zlb_y0, zlb_y143, zlb_y12, zlb_y18, zlb_y1, zlb_y14, zlb_y15], [(none, [(lLo, lHi)], [zlb_y4]), (none, [(lLo, lHi)], [zlb_y143, zlb_y18, zlb_y16, zlb_y0, zlb_y14, zlb_y15, zlb_y2, zlb_y3]), (none, [(lLo, lHi)], [zlb_y12, zlb_y18, zlb_y156, zlb_y0, zlb_y14, zlb_y15, zlb_y144, zlb_y145, zlb_y146, zlb_y147])], [(314, 10, 12), (314, 28, 30), (321, 44, 48), (323, 4, 6)])
set_option maxRecDepth 100000 in
theorem tA252 : vC tS tRA jM 12 tA252c := chkF_ok (D := 11) (hst := jM_st (by decide +kernel)) (T := [(fA0c 0), tA0c, tA134c, tA226c]) (N := []) (sp := []) (fu := 59) (fa_cons (vUq (fA0 0) (by decide)) (fa_cons (vUq tA0 (by decide)) (fa_cons (vUq tA134 (by decide)) (fa_cons (vUq tA226 (by decide)) (fa_nil))))) (by decide +kernel)
/-- X12_readClause -/
def tA253c : aCt := (186, [aR [314]], [zlb_y0, zlb_y130, zlb_y16, zlb_y18, zlb_y1, zlb_y14, zlb_y15], [(none, [(lLo, lHi)], [zlb_y4]), (none, [(lLo, lHi)], [zlb_y130, zlb_y18, zlb_y52, zlb_y0, zlb_y14, zlb_y15, zlb_y46, zlb_y47]), (none, [(lLo, lHi)], [zlb_y16, zlb_y18, zlb_y143, zlb_y0, zlb_y14, zlb_y15, zlb_y131, zlb_y132, zlb_y133, zlb_y134])], [(314, 10, 12), (314, 28, 30), (321, 40, 44), (323, 6, 8)])
set_option maxRecDepth 100000 in
theorem tA253 : vC tS tRA jM 12 tA253c := chkF_ok (D := 11) (hst := jM_st (by decide +kernel)) (T := [(fA0c 0), tA0c, tA143c, tA215c]) (N := []) (sp := []) (fu := 59) (fa_cons (vUq (fA0 0) (by decide)) (fa_cons (vUq tA0 (by decide)) (fa_cons (vUq tA143 (by decide)) (fa_cons (vUq tA215 (by decide)) (fa_nil))))) (by decide +kernel)
/-- X12_readClause -/
def tA254c : aCt := (186, [aR [314]], [zlb_y0, zlb_y117, zlb_y52, zlb_y18, zlb_y1, zlb_y14, zlb_y15], [(none, [(lLo, lHi)], [zlb_y4]), (none, [(lLo, lHi)], [zlb_y52, zlb_y18, zlb_y130, zlb_y0, zlb_y14, zlb_y15, zlb_y118, zlb_y119, zlb_y120, zlb_y121])], [(314, 10, 12), (314, 28, 29), (321, 36, 40)])
set_option maxRecDepth 100000 in
theorem tA254 : vC tS tRA jM 12 tA254c := chkF_ok (D := 11) (hst := jM_st (by decide +kernel)) (T := [(fA0c 0), tA0c, tA204c]) (N := []) (sp := []) (fu := 57) (fa_cons (vUq (fA0 0) (by decide)) (fa_cons (vUq tA0 (by decide)) (fa_cons (vUq tA204 (by decide)) (fa_nil)))) (by decide +kernel)
/-- X12_readClause -/
def tA255c : aCt := (186, [aR [314]], [zlb_y0, zlb_y156, zlb_y12, zlb_y13, zlb_y1, zlb_y14, zlb_y15], [(none, [(lLo, lHi)], [zlb_y4]), (none, [(lLo, lHi)], [zlb_y156, zlb_y13, zlb_y16, zlb_y0, zlb_y14, zlb_y15, zlb_y2, zlb_y3]), (none, [(lLo, lHi)], [zlb_y156, zlb_y12, zlb_y18, zlb_y0, zlb_y14, zlb_y15])], [(314, 10, 12), (314, 29, 30), (314, 31, 32), (319, 0, 2), (323, 4, 6)])
set_option maxRecDepth 100000 in
theorem tA255 : vC tS tRA jM 12 tA255c := chkF_ok (D := 11) (hst := jM_st (by decide +kernel)) (T := [(fA0c 0), tA0c, tA134c, tA121c]) (N := []) (sp := []) (fu := 59) (fa_cons (vUq (fA0 0) (by decide)) (fa_cons (vUq tA0 (by decide)) (fa_cons (vUq tA134 (by decide)) (fa_cons (vUq tA121 (by decide)) (fa_nil))))) (by decide +kernel)
/-- X12_readClause -/
def tA256c : aCt := (186, [aR [314]], [zlb_y0, zlb_y143, zlb_y16, zlb_y13, zlb_y1, zlb_y14, zlb_y15], [(none, [(lLo, lHi)], [zlb_y4]), (none, [(lLo, lHi)], [zlb_y143, zlb_y13, zlb_y52, zlb_y0, zlb_y14, zlb_y15, zlb_y46, zlb_y47]), (none, [(lLo, lHi)], [zlb_y16, zlb_y13, zlb_y156, zlb_y0, zlb_y14, zlb_y15, zlb_y144, zlb_y145, zlb_y146, zlb_y147]), (none, [(lLo, lHi)], [zlb_y143, zlb_y16, zlb_y18, zlb_y0, zlb_y14, zlb_y15])], [(314, 10, 12), (314, 28, 30), (314, 31, 32), (319, 0, 2), (321, 44, 48), (323, 6, 8)])
set_option maxRecDepth 100000 in
theorem tA256 : vC tS tRA jM 12 tA256c := chkF_ok (D := 11) (hst := jM_st (by decide +kernel)) (T := [(fA0c 0), tA0c, tA143c, tA226c, tA121c]) (N := []) (sp := []) (fu := 59) (fa_cons (vUq (fA0 0) (by decide)) (fa_cons (vUq tA0 (by decide)) (fa_cons (vUq tA143 (by decide)) (fa_cons (vUq tA226 (by decide)) (fa_cons (vUq tA121 (by decide)) (fa_nil)))))) (by decide +kernel)
/-- X12_readClause -/
def tA257c : aCt := (186, [aR [314]], [zlb_y0, zlb_y130, zlb_y52, zlb_y13, zlb_y1, zlb_y14, zlb_y15], [(none, [(lLo, lHi)], [zlb_y4]), (none, [(lLo, lHi)], [zlb_y52, zlb_y13, zlb_y143, zlb_y0, zlb_y14, zlb_y15, zlb_y131, zlb_y132, zlb_y133, zlb_y134]), (none, [(lLo, lHi)], [zlb_y130, zlb_y52, zlb_y18, zlb_y0, zlb_y14, zlb_y15])], [(314, 10, 12), (314, 28, 29), (314, 31, 32), (319, 0, 2), (321, 40, 44)])
set_option maxRecDepth 100000 in
theorem tA257 : vC tS tRA jM 12 tA257c := chkF_ok (D := 11) (hst := jM_st (by decide +kernel)) (T := [(fA0c 0), tA0c, tA215c, tA121c]) (N := []) (sp := []) (fu := 57) (fa_cons (vUq (fA0 0) (by decide)) (fa_cons (vUq tA0 (by decide)) (fa_cons (vUq tA215 (by decide)) (fa_cons (vUq tA121 (by decide)) (fa_nil))))) (by decide +kernel)
/-- X12_readClause -/
def tA258c : aCt := (186, [aR [314]], [zlb_y0, zlb_y156, zlb_y12, zlb_y18, zlb_y1, zlb_y14, zlb_y15], [(none, [(lLo, lHi)], [zlb_y4]), (none, [(lLo, lHi)], [zlb_y156, zlb_y18, zlb_y16, zlb_y0, zlb_y14, zlb_y15, zlb_y2, zlb_y3])], [(314, 10, 12), (314, 29, 30), (323, 4, 6)])
set_option maxRecDepth 100000 in
theorem tA258 : vC tS tRA jM 12 tA258c := chkF_ok (D := 11) (hst := jM_st (by decide +kernel)) (T := [(fA0c 0), tA0c, tA134c]) (N := []) (sp := []) (fu := 59) (fa_cons (vUq (fA0 0) (by decide)) (fa_cons (vUq tA0 (by decide)) (fa_cons (vUq tA134 (by decide)) (fa_nil)))) (by decide +kernel)
/-- X12_readClause -/
def tA259c : aCt := (186, [aR [314]], [zlb_y0, zlb_y143, zlb_y16, zlb_y18, zlb_y1, zlb_y14, zlb_y15], [(none, [(lLo, lHi)], [zlb_y4]), (none, [(lLo, lHi)], [zlb_y143, zlb_y18, zlb_y52, zlb_y0, zlb_y14, zlb_y15, zlb_y46, zlb_y47]), (none, [(lLo, lHi)], [zlb_y16, zlb_y18, zlb_y156, zlb_y0, zlb_y14, zlb_y15, zlb_y144, zlb_y145, zlb_y146, zlb_y147])], [(314, 10, 12), (314, 28, 30), (321, 44, 48), (323, 6, 8)])
set_option maxRecDepth 100000 in
theorem tA259 : vC tS tRA jM 12 tA259c := chkF_ok (D := 11) (hst := jM_st (by decide +kernel)) (T := [(fA0c 0), tA0c, tA143c, tA226c]) (N := []) (sp := []) (fu := 59) (fa_cons (vUq (fA0 0) (by decide)) (fa_cons (vUq tA0 (by decide)) (fa_cons (vUq tA143 (by decide)) (fa_cons (vUq tA226 (by decide)) (fa_nil))))) (by decide +kernel)
/-- X12_readClause -/
def tA260c : aCt := (186, [aR [314]], [zlb_y0, zlb_y130, zlb_y52, zlb_y18, zlb_y1, zlb_y14, zlb_y15], [(none, [(lLo, lHi)], [zlb_y4]), (none, [(lLo, lHi)], [zlb_y52, zlb_y18, zlb_y143, zlb_y0, zlb_y14, zlb_y15, zlb_y131, zlb_y132, zlb_y133, zlb_y134])], [(314, 10, 12), (314, 28, 29), (321, 40, 44)])
set_option maxRecDepth 100000 in
theorem tA260 : vC tS tRA jM 12 tA260c := chkF_ok (D := 11) (hst := jM_st (by decide +kernel)) (T := [(fA0c 0), tA0c, tA215c]) (N := []) (sp := []) (fu := 57) (fa_cons (vUq (fA0 0) (by decide)) (fa_cons (vUq tA0 (by decide)) (fa_cons (vUq tA215 (by decide)) (fa_nil)))) (by decide +kernel)
/-- X12_readClause -/
def tA261c : aCt := (186, [aR [314]], [zlb_y0, zlb_y156, zlb_y16, zlb_y13, zlb_y1, zlb_y14, zlb_y15], [(none, [(lLo, lHi)], [zlb_y4]), (none, [(lLo, lHi)], [zlb_y156, zlb_y13, zlb_y52, zlb_y0, zlb_y14, zlb_y15, zlb_y46, zlb_y47]), (none, [(lLo, lHi)], [zlb_y156, zlb_y16, zlb_y18, zlb_y0, zlb_y14, zlb_y15])], [(314, 10, 12), (314, 29, 30), (314, 31, 32), (319, 0, 2), (323, 6, 8)])
set_option maxRecDepth 100000 in
theorem tA261 : vC tS tRA jM 12 tA261c := chkF_ok (D := 11) (hst := jM_st (by decide +kernel)) (T := [(fA0c 0), tA0c, tA143c, tA121c]) (N := []) (sp := []) (fu := 59) (fa_cons (vUq (fA0 0) (by decide)) (fa_cons (vUq tA0 (by decide)) (fa_cons (vUq tA143 (by decide)) (fa_cons (vUq tA121 (by decide)) (fa_nil))))) (by decide +kernel)
/-- X12_readClause -/
def tA262c : aCt := (186, [aR [314]], [zlb_y0, zlb_y143, zlb_y52, zlb_y13, zlb_y1, zlb_y14, zlb_y15], [(none, [(lLo, lHi)], [zlb_y4]), (none, [(lLo, lHi)], [zlb_y52, zlb_y13, zlb_y156, zlb_y0, zlb_y14, zlb_y15, zlb_y144, zlb_y145, zlb_y146, zlb_y147]), (none, [(lLo, lHi)], [zlb_y143, zlb_y52, zlb_y18, zlb_y0, zlb_y14, zlb_y15])], [(314, 10, 12), (314, 28, 29), (314, 31, 32), (319, 0, 2), (321, 44, 48)])
set_option maxRecDepth 100000 in
theorem tA262 : vC tS tRA jM 12 tA262c := chkF_ok (D := 11) (hst := jM_st (by decide +kernel)) (T := [(fA0c 0), tA0c, tA226c, tA121c]) (N := []) (sp := []) (fu := 57) (fa_cons (vUq (fA0 0) (by decide)) (fa_cons (vUq tA0 (by decide)) (fa_cons (vUq tA226 (by decide)) (fa_cons (vUq tA121 (by decide)) (fa_nil))))) (by decide +kernel)
/-- X12_readClause -/
def tA263c : aCt := (186, [aR [314]], [zlb_y0, zlb_y156, zlb_y16, zlb_y18, zlb_y1, zlb_y14, zlb_y15], [(none, [(lLo, lHi)], [zlb_y4]), (none, [(lLo, lHi)], [zlb_y156, zlb_y18, zlb_y52, zlb_y0, zlb_y14, zlb_y15, zlb_y46, zlb_y47])], [(314, 10, 12), (314, 29, 30), (323, 6, 8)])
set_option maxRecDepth 100000 in
theorem tA263 : vC tS tRA jM 12 tA263c := chkF_ok (D := 11) (hst := jM_st (by decide +kernel)) (T := [(fA0c 0), tA0c, tA143c]) (N := []) (sp := []) (fu := 59) (fa_cons (vUq (fA0 0) (by decide)) (fa_cons (vUq tA0 (by decide)) (fa_cons (vUq tA143 (by decide)) (fa_nil)))) (by decide +kernel)
/-- X12_readClause -/
def tA264c : aCt := (186, [aR [314]], [zlb_y0, zlb_y143, zlb_y52, zlb_y18, zlb_y1, zlb_y14, zlb_y15], [(none, [(lLo, lHi)], [zlb_y4]), (none, [(lLo, lHi)], [zlb_y52, zlb_y18, zlb_y156, zlb_y0, zlb_y14, zlb_y15, zlb_y144, zlb_y145, zlb_y146, zlb_y147])], [(314, 10, 12), (314, 28, 29), (321, 44, 48)])
set_option maxRecDepth 100000 in
theorem tA264 : vC tS tRA jM 12 tA264c := chkF_ok (D := 11) (hst := jM_st (by decide +kernel)) (T := [(fA0c 0), tA0c, tA226c]) (N := []) (sp := []) (fu := 57) (fa_cons (vUq (fA0 0) (by decide)) (fa_cons (vUq tA0 (by decide)) (fa_cons (vUq tA226 (by decide)) (fa_nil)))) (by decide +kernel)
/-- X12_readClause -/
def tA265c : aCt := (186, [aR [314]], [zlb_y0, zlb_y156, zlb_y52, zlb_y13, zlb_y1, zlb_y14, zlb_y15], [(none, [(lLo, lHi)], [zlb_y4]), (none, [(lLo, lHi)], [zlb_y156, zlb_y52, zlb_y18, zlb_y0, zlb_y14, zlb_y15])], [(314, 10, 12), (314, 31, 32), (319, 0, 2)])
set_option maxRecDepth 100000 in
theorem tA265 : vC tS tRA jM 12 tA265c := chkF_ok (D := 11) (hst := jM_st (by decide +kernel)) (T := [(fA0c 0), tA0c, tA121c]) (N := []) (sp := []) (fu := 42) (fa_cons (vUq (fA0 0) (by decide)) (fa_cons (vUq tA0 (by decide)) (fa_cons (vUq tA121 (by decide)) (fa_nil)))) (by decide +kernel)
/-- X12_readClause -/
def tA266c : aCt := (186, [aR [314]], [zlb_y0, zlb_y156, zlb_y52, zlb_y18, zlb_y1, zlb_y14, zlb_y15], [(none, [(lLo, lHi)], [zlb_y4])], [(314, 10, 12)])
set_option maxRecDepth 100000 in
theorem tA266 : vC tS tRA jM 10 tA266c := chkF_ok (D := 9) (hst := jM_st (by decide +kernel)) (T := [(fA0c 0), tA0c]) (N := []) (sp := []) (fu := 31) (fa_cons (vUq (fA0 0) (by decide)) (fa_cons (vUq tA0 (by decide)) (fa_nil))) (by decide +kernel)
