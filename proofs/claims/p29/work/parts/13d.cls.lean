/-! L2: contracts of the class -/
/-- X8_takeNumber -/
def q81c : aCt := (76, [aR [1], aI 2 2, aI 0 0, aI 7 7], [], [(some (aI 0 7), [(lLo, lHi), (lLo, lHi), (lLo, lHi), (lLo, lHi)], []), (some (aI (-1) (-1)), [(lLo, lHi), (lLo, lHi), (lLo, lHi), (lLo, lHi)], [])], [(1, 2, 4)])
set_option maxRecDepth 100000 in
theorem q81 : vC tS tR jT 3 q81c := chkF_ok (D := 2) (hst := jTs) (T := [q6c, q5c, q14c, q12c]) (N := [(11, [(0, aR [1]), (1, aI 2 2), (2, aI 0 0), (3, aI 7 7), (4, aIt), (5, aI 0 2)], [], 0, [(5, 1, 2, true)])]) (sp := []) (fu := 34) (fa_cons (vUp q6 (by decide)) (fa_cons (vUp q5 (by decide)) (fa_cons (vUp q14 (by decide)) (fa_cons (vUp q12 (by decide)) (fa_nil))))) (by decide +kernel)
/-- X8_takeNumber -/
def q82c : aCt := (76, [aR [1], aI 2 2, aI 0 0, aI 9 9], [], [(some (aI 0 9), [(lLo, lHi), (lLo, lHi), (lLo, lHi), (lLo, lHi)], []), (some (aI (-1) (-1)), [(lLo, lHi), (lLo, lHi), (lLo, lHi), (lLo, lHi)], [])], [(1, 2, 4)])
set_option maxRecDepth 100000 in
theorem q82 : vC tS tR jT 3 q82c := chkF_ok (D := 2) (hst := jTs) (T := [q6c, q5c, q14c, q12c]) (N := [(11, [(0, aR [1]), (1, aI 2 2), (2, aI 0 0), (3, aI 9 9), (4, aIt), (5, aI 0 2)], [], 0, [(5, 1, 2, true)])]) (sp := []) (fu := 34) (fa_cons (vUp q6 (by decide)) (fa_cons (vUp q5 (by decide)) (fa_cons (vUp q14 (by decide)) (fa_cons (vUp q12 (by decide)) (fa_nil))))) (by decide +kernel)
/-- X5_readItems -/
def q83c : aCt := (44, [aR [1], aR [1014], aR [1015], aR [1016], aR [40, 41, 42, 43]], [], [(some (aI 1 1), [(lLo, lHi), (lLo, lHi), (lLo, lHi), (lLo, lHi), (lLo, lHi)], []), (some (aI 0 0), [(lLo, lHi), (lLo, lHi), (lLo, lHi), (lLo, lHi), (lLo, lHi)], [])], [(1, 2, 4), (40, 0, 2), (41, 0, 2), (42, 0, 2), (43, 0, 2)])
set_option maxRecDepth 100000 in
theorem q83 : vC tS tR jT 4 q83c := chkF_ok (D := 3) (hst := jTs) (T := [q6c, q79c, q9c, q80c, q7c, q81c, q82c]) (N := [(6, [(0, aR [1]), (1, aR [1014]), (2, aR [1015]), (3, aR [1016]), (4, aR [40, 41, 42, 43]), (5, aI 0 3), (6, aI 0 3)], [], 1, [(6, 2, 3, true)]),
  (80, [(0, aR [1]), (1, aR [1014]), (2, aR [1015]), (3, aR [1016]), (4, aR [40, 41, 42, 43]), (5, aI 1 3), (6, aI 0 2), (7, aI 60 255), (8, aI 0 0)], [(1, 2, 0, 239)], 0, [(6, 2, 3, true)]),
  (80, [(0, aR [1]), (1, aR [1014]), (2, aR [1015]), (3, aR [1016]), (4, aR [40, 41, 42, 43]), (5, aI 1 3), (6, aI 0 2), (7, aI 60 255), (8, aI 1 1)], [(1, 2, 0, 239)], 0, [(6, 2, 3, true)])]) (sp := [(80, 8)]) (fu := 44) (fa_cons (vUp q6 (by decide)) (fa_cons (vUp q79 (by decide)) (fa_cons (vUp q9 (by decide)) (fa_cons (vUp q80 (by decide)) (fa_cons (vUp q7 (by decide)) (fa_cons (vUp q81 (by decide)) (fa_cons (vUp q82 (by decide)) (fa_nil)))))))) (by decide +kernel)
/-- X5_placeOf -/
def q84c : aCt := (45, [aR [1010], aI 60 255], [], [(some (aI (-1) (-1)), [(lLo, lHi), (lLo, lHi)], []), (some (aI 0 3), [(lLo, lHi), (lLo, lHi)], [])], [])
set_option maxRecDepth 100000 in
theorem q84 : vC tS tR jT 1 q84c := chkF_ok (D := 0) (hst := jTs) (T := []) (N := [(2, [(0, aR [1010]), (1, aI 60 255), (2, aI 0 4)], [], 0, [(2, 1, 4, true)])]) (sp := []) (fu := 19) (fa_nil) (by decide +kernel)
/-- X5_placeOf -/
def q85c : aCt := (45, [aR [1010], aI 0 58], [], [(some (aI (-1) (-1)), [(lLo, lHi), (lLo, lHi)], [])], [])
set_option maxRecDepth 100000 in
theorem q85 : vC tS tR jT 1 q85c := chkF_ok (D := 0) (hst := jTs) (T := []) (N := [(2, [(0, aR [1010]), (1, aI 0 58), (2, aI 0 4)], [], 0, [(2, 1, 4, true)])]) (sp := []) (fu := 19) (fa_nil) (by decide +kernel)
/-- X8_takeNumber -/
def q86c : aCt := (76, [aR [1], aI 2 2, aI 1 1, aI 40 40], [], [(some (aI 1 40), [(lLo, lHi), (lLo, lHi), (lLo, lHi), (lLo, lHi)], []), (some (aI (-1) (-1)), [(lLo, lHi), (lLo, lHi), (lLo, lHi), (lLo, lHi)], [])], [(1, 2, 4)])
set_option maxRecDepth 100000 in
theorem q86 : vC tS tR jT 3 q86c := chkF_ok (D := 2) (hst := jTs) (T := [q6c, q5c, q14c, q12c]) (N := [(11, [(0, aR [1]), (1, aI 2 2), (2, aI 1 1), (3, aI 40 40), (4, aIt), (5, aI 0 2)], [], 0, [(5, 1, 2, true)])]) (sp := []) (fu := 34) (fa_cons (vUp q6 (by decide)) (fa_cons (vUp q5 (by decide)) (fa_cons (vUp q14 (by decide)) (fa_cons (vUp q12 (by decide)) (fa_nil))))) (by decide +kernel)
/-- X8_takeNumber -/
def q87c : aCt := (76, [aR [1], aI 2 2, aI 0 0, aI 1 1], [], [(some (aI 0 1), [(lLo, lHi), (lLo, lHi), (lLo, lHi), (lLo, lHi)], []), (some (aI (-1) (-1)), [(lLo, lHi), (lLo, lHi), (lLo, lHi), (lLo, lHi)], [])], [(1, 2, 4)])
set_option maxRecDepth 100000 in
theorem q87 : vC tS tR jT 3 q87c := chkF_ok (D := 2) (hst := jTs) (T := [q6c, q5c, q14c, q12c]) (N := [(11, [(0, aR [1]), (1, aI 2 2), (2, aI 0 0), (3, aI 1 1), (4, aIt), (5, aI 0 2)], [], 0, [(5, 1, 2, true)])]) (sp := []) (fu := 34) (fa_cons (vUp q6 (by decide)) (fa_cons (vUp q5 (by decide)) (fa_cons (vUp q14 (by decide)) (fa_cons (vUp q12 (by decide)) (fa_nil))))) (by decide +kernel)
/-- X5_readItems -/
def q88c : aCt := (44, [aR [1], aR [1010], aR [1011], aR [1012], aR [27, 28, 29, 30, 31, 32, 33, 34, 35, 36, 37, 38]], [], [(some (aI 1 1), [(lLo, lHi), (lLo, lHi), (lLo, lHi), (lLo, lHi), (lLo, lHi)], []), (some (aI 0 0), [(lLo, lHi), (lLo, lHi), (lLo, lHi), (lLo, lHi), (lLo, lHi)], [])], [(1, 2, 4), (27, 0, 4), (28, 0, 4), (29, 0, 4), (30, 0, 4), (31, 0, 4), (32, 0, 4), (33, 0, 4), (34, 0, 4), (35, 0, 4), (36, 0, 4), (37, 0, 4), (38, 0, 4)])
set_option maxRecDepth 100000 in
theorem q88 : vC tS tR jT 4 q88c := chkF_ok (D := 3) (hst := jTs) (T := [q6c, q84c, q9c, q85c, q7c, q81c, q86c, q87c]) (N := [(6, [(0, aR [1]), (1, aR [1010]), (2, aR [1011]), (3, aR [1012]), (4, aR [27, 28, 29, 30, 31, 32, 33, 34, 35, 36, 37, 38]), (5, aI 0 15), (6, aI 0 5)], [], 1, [(6, 2, 5, true)]),
  (80, [(0, aR [1]), (1, aR [1010]), (2, aR [1011]), (3, aR [1012]), (4, aR [27, 28, 29, 30, 31, 32, 33, 34, 35, 36, 37, 38]), (5, aI 1 15), (6, aI 0 4), (7, aI 60 255), (8, aI 0 0)], [(1, 2, 0, 239)], 0, [(6, 2, 5, true)]),
  (80, [(0, aR [1]), (1, aR [1010]), (2, aR [1011]), (3, aR [1012]), (4, aR [27, 28, 29, 30, 31, 32, 33, 34, 35, 36, 37, 38]), (5, aI 1 15), (6, aI 0 4), (7, aI 60 255), (8, aI 1 1)], [(1, 2, 0, 239)], 0, [(6, 2, 5, true)]),
  (80, [(0, aR [1]), (1, aR [1010]), (2, aR [1011]), (3, aR [1012]), (4, aR [27, 28, 29, 30, 31, 32, 33, 34, 35, 36, 37, 38]), (5, aI 1 15), (6, aI 0 4), (7, aI 60 255), (8, aI 2 2)], [(1, 2, 0, 239)], 0, [(6, 2, 5, true)]),
  (80, [(0, aR [1]), (1, aR [1010]), (2, aR [1011]), (3, aR [1012]), (4, aR [27, 28, 29, 30, 31, 32, 33, 34, 35, 36, 37, 38]), (5, aI 1 15), (6, aI 0 4), (7, aI 60 255), (8, aI 3 3)], [(1, 2, 0, 239)], 0, [(6, 2, 5, true)])]) (sp := [(80, 8)]) (fu := 44) (fa_cons (vUp q6 (by decide)) (fa_cons (vUp q84 (by decide)) (fa_cons (vUp q9 (by decide)) (fa_cons (vUp q85 (by decide)) (fa_cons (vUp q7 (by decide)) (fa_cons (vUp q81 (by decide)) (fa_cons (vUp q86 (by decide)) (fa_cons (vUp q87 (by decide)) (fa_nil))))))))) (by decide +kernel)
/-- X5_placeOf -/
def q89c : aCt := (45, [aR [1006], aI 60 255], [], [(some (aI (-1) (-1)), [(lLo, lHi), (lLo, lHi)], []), (some (aI 0 1), [(lLo, lHi), (lLo, lHi)], [])], [])
set_option maxRecDepth 100000 in
theorem q89 : vC tS tR jT 1 q89c := chkF_ok (D := 0) (hst := jTs) (T := []) (N := [(2, [(0, aR [1006]), (1, aI 60 255), (2, aI 0 2)], [], 0, [(2, 1, 2, true)])]) (sp := []) (fu := 19) (fa_nil) (by decide +kernel)
/-- X5_placeOf -/
def q90c : aCt := (45, [aR [1006], aI 0 58], [], [(some (aI (-1) (-1)), [(lLo, lHi), (lLo, lHi)], [])], [])
set_option maxRecDepth 100000 in
theorem q90 : vC tS tR jT 1 q90c := chkF_ok (D := 0) (hst := jTs) (T := []) (N := [(2, [(0, aR [1006]), (1, aI 0 58), (2, aI 0 2)], [], 0, [(2, 1, 2, true)])]) (sp := []) (fu := 19) (fa_nil) (by decide +kernel)
/-- X8_takeNumber -/
def q91c : aCt := (76, [aR [1], aI 2 2, aI 2 2, aI 8 8], [], [(some (aI 2 8), [(lLo, lHi), (lLo, lHi), (lLo, lHi), (lLo, lHi)], []), (some (aI (-1) (-1)), [(lLo, lHi), (lLo, lHi), (lLo, lHi), (lLo, lHi)], [])], [(1, 2, 4)])
set_option maxRecDepth 100000 in
theorem q91 : vC tS tR jT 3 q91c := chkF_ok (D := 2) (hst := jTs) (T := [q6c, q5c, q14c, q12c]) (N := [(11, [(0, aR [1]), (1, aI 2 2), (2, aI 2 2), (3, aI 8 8), (4, aIt), (5, aI 0 2)], [], 0, [(5, 1, 2, true)])]) (sp := []) (fu := 34) (fa_cons (vUp q6 (by decide)) (fa_cons (vUp q5 (by decide)) (fa_cons (vUp q14 (by decide)) (fa_cons (vUp q12 (by decide)) (fa_nil))))) (by decide +kernel)
/-- X8_takeNumber -/
def q92c : aCt := (76, [aR [1], aI 2 2, aI 0 0, aI 99 99], [], [(some (aI 0 99), [(lLo, lHi), (lLo, lHi), (lLo, lHi), (lLo, lHi)], []), (some (aI (-1) (-1)), [(lLo, lHi), (lLo, lHi), (lLo, lHi), (lLo, lHi)], [])], [(1, 2, 4)])
set_option maxRecDepth 100000 in
theorem q92 : vC tS tR jT 3 q92c := chkF_ok (D := 2) (hst := jTs) (T := [q6c, q5c, q14c, q12c]) (N := [(11, [(0, aR [1]), (1, aI 2 2), (2, aI 0 0), (3, aI 99 99), (4, aIt), (5, aI 0 2)], [], 0, [(5, 1, 2, true)])]) (sp := []) (fu := 34) (fa_cons (vUp q6 (by decide)) (fa_cons (vUp q5 (by decide)) (fa_cons (vUp q14 (by decide)) (fa_cons (vUp q12 (by decide)) (fa_nil))))) (by decide +kernel)
/-- X5_readItems -/
def q93c : aCt := (44, [aR [1], aR [1006], aR [1007], aR [1008], aR [25]], [], [(some (aI 1 1), [(lLo, lHi), (lLo, lHi), (lLo, lHi), (lLo, lHi), (lLo, lHi)], []), (some (aI 0 0), [(lLo, lHi), (lLo, lHi), (lLo, lHi), (lLo, lHi), (lLo, lHi)], [])], [(1, 2, 4), (25, 0, 2)])
set_option maxRecDepth 100000 in
theorem q93 : vC tS tR jT 4 q93c := chkF_ok (D := 3) (hst := jTs) (T := [q6c, q89c, q9c, q90c, q7c, q91c, q92c]) (N := [(6, [(0, aR [1]), (1, aR [1006]), (2, aR [1007]), (3, aR [1008]), (4, aR [25]), (5, aI 0 3), (6, aI 0 3)], [], 1, [(6, 2, 3, true)]),
  (80, [(0, aR [1]), (1, aR [1006]), (2, aR [1007]), (3, aR [1008]), (4, aR [25]), (5, aI 1 3), (6, aI 0 2), (7, aI 60 255), (8, aI 0 0)], [(1, 2, 0, 239)], 0, [(6, 2, 3, true)]),
  (80, [(0, aR [1]), (1, aR [1006]), (2, aR [1007]), (3, aR [1008]), (4, aR [25]), (5, aI 1 3), (6, aI 0 2), (7, aI 60 255), (8, aI 1 1)], [(1, 2, 0, 239)], 0, [(6, 2, 3, true)])]) (sp := [(80, 8)]) (fu := 44) (fa_cons (vUp q6 (by decide)) (fa_cons (vUp q89 (by decide)) (fa_cons (vUp q9 (by decide)) (fa_cons (vUp q90 (by decide)) (fa_cons (vUp q7 (by decide)) (fa_cons (vUp q91 (by decide)) (fa_cons (vUp q92 (by decide)) (fa_nil)))))))) (by decide +kernel)
/-- X5_readClause -/
def q94c : aCt := (43, [aR [24], aR [1]], [], [(some (aI 0 0), [(lLo, lHi), (lLo, lHi)], []), (some (aI 1 1), [(lLo, lHi), (lLo, lHi)], [])], [(1, 2, 4), (24, 1, 4), (25, 0, 2), (27, 0, 4), (28, 0, 4), (29, 0, 4), (30, 0, 4), (31, 0, 4), (32, 0, 4), (33, 0, 4), (34, 0, 4), (35, 0, 4), (36, 0, 4), (37, 0, 4), (38, 0, 4), (40, 0, 2), (41, 0, 2), (42, 0, 2), (43, 0, 2)])
set_option maxRecDepth 100000 in
theorem q94 : vC tS tR jT 5 q94c := chkF_ok (D := 4) (hst := jTs) (T := [q6c, q9c, q7c, q83c, q88c, q93c]) (N := []) (sp := []) (fu := 50) (fa_cons (vUp q6 (by decide)) (fa_cons (vUp q9 (by decide)) (fa_cons (vUp q7 (by decide)) (fa_cons (vUp q83 (by decide)) (fa_cons (vUp q88 (by decide)) (fa_cons (vUp q93 (by decide)) (fa_nil))))))) (by decide +kernel)
/-- X5_endA -/
def q95c : aCt := (48, [aR [24], aI 0 11], [], [(some (aI 0 7), [(lLo, lHi), (0, 11)], [])], [])
set_option maxRecDepth 100000 in
theorem q95 : vC tS tR jT 1 q95c := chkF_ok (D := 0) (hst := jTs) (T := []) (N := []) (sp := []) (fu := 14) (fa_nil) (by decide +kernel)
/-- X5_endB -/
def q96c : aCt := (49, [aR [24], aI 0 11], [], [(some (aI 0 7), [(lLo, lHi), (0, 11)], [])], [])
set_option maxRecDepth 100000 in
theorem q96 : vC tS tR jT 1 q96c := chkF_ok (D := 0) (hst := jTs) (T := []) (N := []) (sp := []) (fu := 14) (fa_nil) (by decide +kernel)
/-- X5_isSound -/
def q97c : aCt := (46, [aR [24]], [], [(some (aI 0 0), [(lLo, lHi)], []), (some (aI 1 1), [(lLo, lHi)], [])], [])
set_option maxRecDepth 100000 in
theorem q97 : vC tS tR jT 2 q97c := chkF_ok (D := 1) (hst := jTs) (T := [q95c, q96c]) (N := [(18, [(0, aR [24]), (1, aI 0 12)], [(24, 1, 1, 12), (24, 2, 1, 4)], 5, [(1, 1, 12, true)]),
  (73, [(0, aR [24]), (1, aI 0 4)], [(24, 1, 1, 12), (24, 2, 1, 4)], 0, [(1, 1, 4, true)])]) (sp := []) (fu := 33) (fa_cons (vUp q95 (by decide)) (fa_cons (vUp q96 (by decide)) (fa_nil))) (by decide +kernel)
/-- X5_noteTouching -/
def q98c : aCt := (47, [aR [24]], [], [(none, [(lLo, lHi)], [])], [(44, 0, 8)])
set_option maxRecDepth 100000 in
theorem q98 : vC tS tR jT 2 q98c := chkF_ok (D := 1) (hst := jTs) (T := [q95c, q96c]) (N := [(2, [(0, aR [24]), (1, aI 0 8)], [], 13, [(1, 1, 8, true)]),
  (23, [(0, aR [24]), (1, aI 0 12)], [], 0, [(1, 1, 12, true)])]) (sp := []) (fu := 38) (fa_cons (vUp q95 (by decide)) (fa_cons (vUp q96 (by decide)) (fa_nil))) (by decide +kernel)
/-- X5_readFrom -/
def q99c : aCt := (41, [aR [24], aR [1]], [], [(some (aI (-1) (-1)), [(lLo, lHi), (lLo, lHi)], []), (some (aI (-1) 240), [(lLo, lHi), (lLo, lHi)], [])], [(1, 2, 4), (24, 0, 4), (25, 0, 2), (27, 0, 4), (28, 0, 4), (29, 0, 4), (30, 0, 4), (31, 0, 4), (32, 0, 4), (33, 0, 4), (34, 0, 4), (35, 0, 4), (36, 0, 4), (37, 0, 4), (38, 0, 4), (40, 0, 2), (41, 0, 2), (42, 0, 2), (43, 0, 2), (44, 0, 8)])
set_option maxRecDepth 100000 in
theorem q99 : vC tS tR jT 6 q99c := chkF_ok (D := 5) (hst := jTs) (T := [q78c, q4c, q94c, q6c, q97c, q98c, q76c]) (N := [(10, [(0, aR [24]), (1, aR [1]), (2, aI 0 241)], [], 0, [(2, 1, 241, true)])]) (sp := []) (fu := 32) (fa_cons (vUp q78 (by decide)) (fa_cons (vUp q4 (by decide)) (fa_cons (vUp q94 (by decide)) (fa_cons (vUp q6 (by decide)) (fa_cons (vUp q97 (by decide)) (fa_cons (vUp q98 (by decide)) (fa_cons (vUp q76 (by decide)) (fa_nil)))))))) (by decide +kernel)
/-- X11_fault -/
def q100c : aCt := (98, [aR [0], aIt], [], [(some (aI (-1) (-1)), [(lLo, lHi), (0, 2)], []), (some (aI (-2) 240), [(lLo, lHi), (iLo, iHi)], [])], [(1, 2, 4), (24, 0, 4), (25, 0, 2), (27, 0, 4), (28, 0, 4), (29, 0, 4), (30, 0, 4), (31, 0, 4), (32, 0, 4), (33, 0, 4), (34, 0, 4), (35, 0, 4), (36, 0, 4), (37, 0, 4), (38, 0, 4), (40, 0, 2), (41, 0, 2), (42, 0, 2), (43, 0, 2), (44, 0, 8), (45, 2, 3), (46, 0, 240), (55, 3, 4), (62, 0, 16)])
set_option maxRecDepth 100000 in
theorem q100 : vC tS tR jT 36 q100c := chkF_ok (D := 35) (hst := jTs) (T := [q8c, q77c, q99c]) (N := []) (sp := []) (fu := 15) (fa_cons (vUp q8 (by decide)) (fa_cons (vUp q77 (by decide)) (fa_cons (vUp q99 (by decide)) (fa_nil)))) (by decide +kernel)
/-- X9_addDraft -/
def q101c : aCt := (79, [aR [55]], [], [(some (aI (-1) (-1)), [(lLo, lHi)], []), (some (aI 0 3), [(lLo, lHi)], [])], [(55, 4, 5), (57, 0, 16), (58, 0, 16), (59, 0, 16), (60, 0, 16), (61, 0, 4)])
set_option maxRecDepth 100000 in
theorem q101 : vC tS tR jT 1 q101c := chkF_ok (D := 0) (hst := jTs) (T := []) (N := []) (sp := []) (fu := 40) (fa_nil) (by decide +kernel)
/-- X3_addFrom -/
def q102c : aCt := (26, [aR [47], aR [45]], [], [(some (aI (-1) (-1)), [(lLo, lHi), (lLo, lHi)], []), (some (aI 0 3), [(lLo, lHi), (lLo, lHi)], [])], [(47, 4, 5), (49, 0, 240), (50, 0, 240), (51, 0, 240), (52, 0, 240), (53, 0, 4)])
set_option maxRecDepth 100000 in
theorem q102 : vC tS tR jT 1 q102c := chkF_ok (D := 0) (hst := jTs) (T := []) (N := []) (sp := []) (fu := 41) (fa_nil) (by decide +kernel)
/-- X5_become -/
def q103c : aCt := (40, [aR [3], aR [24]], [], [(none, [(lLo, lHi), (lLo, lHi)], [])], [(3, 0, 3), (4, 0, 2), (6, 0, 4), (7, 0, 4), (8, 0, 4), (9, 0, 4), (10, 0, 4), (11, 0, 4), (12, 0, 4), (13, 0, 4), (14, 0, 4), (15, 0, 4), (16, 0, 4), (17, 0, 4), (19, 0, 2), (20, 0, 2), (21, 0, 2), (22, 0, 2), (23, 0, 8)])
set_option maxRecDepth 100000 in
theorem q103 : vC tS tR jT 1 q103c := chkF_ok (D := 0) (hst := jTs) (T := []) (N := [(40, [(0, aR [3]), (1, aR [24]), (2, aI 0 12)], [], 5, [(2, 1, 12, true)]),
  (72, [(0, aR [3]), (1, aR [24]), (2, aI 0 4)], [], 0, [(2, 1, 4, true)])]) (sp := []) (fu := 30) (fa_nil) (by decide +kernel)
/-- X5_wallsTold -/
def q104c : aCt := (51, [aR [3]], [], [(some (aI 0 4095), [(lLo, lHi)], [])], [])
set_option maxRecDepth 100000 in
theorem q104 : vC tS tR jT 1 q104c := chkF_ok (D := 0) (hst := jTs) (T := []) (N := [(4, [(0, aR [3]), (1, aI 0 4095), (2, aI 0 12)], [], 0, [(2, 1, 12, true)])]) (sp := []) (fu := 25) (fa_nil) (by decide +kernel)
/-- X6_begin -/
def q105c : aCt := (59, [aR [89], aR [3]], [], [(none, [(lLo, lHi), (lLo, lHi)], [])], [(89, 0, 3), (90, 0, 8), (91, 0, 8), (92, 0, 4), (93, 0, 4)])
set_option maxRecDepth 100000 in
theorem q105 : vC tS tR jT 2 q105c := chkF_ok (D := 1) (hst := jTs) (T := [q104c]) (N := [(25, [(0, aR [89]), (1, aR [3]), (2, aI 0 8)], [(89, 0, 0, 4095), (89, 1, 0, 99), (89, 2, 0, 0)], 5, [(2, 1, 8, true)]),
  (53, [(0, aR [89]), (1, aR [3]), (2, aI 0 4)], [(89, 0, 0, 4095), (89, 1, 0, 99), (89, 2, 0, 0)], 0, [(2, 1, 4, true)])]) (sp := []) (fu := 43) (fa_cons (vUp q104 (by decide)) (fa_nil)) (by decide +kernel)
/-- X0_forgetAll -/
def q106c : aCt := (3, [aR [99]], [], [(none, [(lLo, lHi)], [])], [(99, 2, 3)])
set_option maxRecDepth 100000 in
theorem q106 : vC tS tR jT 1 q106c := chkF_ok (D := 0) (hst := jTs) (T := []) (N := []) (sp := []) (fu := 11) (fa_nil) (by decide +kernel)
/-- X11_settleTown -/
def q107c : aCt := (100, [aR [0]], [], [(some (aI 0 12), [(lLo, lHi)], [])], [(0, 15, 16), (3, 0, 3), (4, 0, 2), (6, 0, 4), (7, 0, 4), (8, 0, 4), (9, 0, 4), (10, 0, 4), (11, 0, 4), (12, 0, 4), (13, 0, 4), (14, 0, 4), (15, 0, 4), (16, 0, 4), (17, 0, 4), (19, 0, 2), (20, 0, 2), (21, 0, 2), (22, 0, 2), (23, 0, 8), (84, 4, 5), (89, 0, 3), (90, 0, 8), (91, 0, 8), (92, 0, 4), (93, 0, 4), (99, 2, 3)])
set_option maxRecDepth 100000 in
theorem q107 : vC tS tR jT 3 q107c := chkF_ok (D := 2) (hst := jTs) (T := [q103c, q105c, q106c]) (N := []) (sp := []) (fu := 31) (fa_cons (vUp q103 (by decide)) (fa_cons (vUp q105 (by decide)) (fa_cons (vUp q106 (by decide)) (fa_nil)))) (by decide +kernel)
