/-! L2: contracts of the class -/
/-- X8_bytesOf -/
def q0c : aCt := (67, [aIt], [], [(some (aIt), [(lLo, lHi)], [])], [])
set_option maxRecDepth 100000 in
theorem q0 : vC tS tR jT 1 q0c := chkF_ok (D := 0) (hst := jTs) (T := []) (N := [(5, [(0, aIt), (1, aIt), (2, aI (-8) 24)], [], 0, [(2, 1, (-8), false)])]) (sp := []) (fu := 19) (fa_nil) (by decide +kernel)
/-- X8_append -/
def q1c : aCt := (68, [aR [1], aIt], [], [(none, [(lLo, lHi), (lLo, lHi)], [])], [(1, 1, 2), (2, 0, 240)])
set_option maxRecDepth 100000 in
theorem q1 : vC tS tR jT 1 q1c := chkF_ok (D := 0) (hst := jTs) (T := []) (N := [(3, [(0, aR [1]), (1, aIt), (2, aI (-8) 24)], [], 0, [(2, 1, (-8), false)])]) (sp := []) (fu := 36) (fa_nil) (by decide +kernel)
/-- X11_feed -/
def q2c : aCt := (96, [aR [0], aIt, aIt, aIt, aIt, aIt], [], [(some (aI 0 240), [(lLo, lHi), (iLo, iHi), (iLo, iHi), (iLo, iHi), (iLo, iHi), (iLo, iHi)], []), (some (aI (-1) (-1)), [(lLo, lHi), (iLo, iHi), (iLo, iHi), (iLo, iHi), (iLo, iHi), (iLo, iHi)], [])], [(1, 1, 2), (2, 0, 240)])
set_option maxRecDepth 100000 in
theorem q2 : vC tS tR jT 2 q2c := chkF_ok (D := 1) (hst := jTs) (T := [q0c, q1c]) (N := []) (sp := []) (fu := 53) (fa_cons (vUp q0 (by decide)) (fa_cons (vUp q1 (by decide)) (fa_nil))) (by decide +kernel)
/-- X11_end -/
def q3c : aCt := (97, [aR [0], aIt], [], [(some (aI 1 1), [(lLo, lHi), (0, 240)], []), (some (aI 0 0), [(lLo, lHi), (iLo, iHi)], [])], [(1, 1, 2)])
set_option maxRecDepth 100000 in
theorem q3 : vC tS tR jT 1 q3c := chkF_ok (D := 0) (hst := jTs) (T := []) (N := []) (sp := []) (fu := 20) (fa_nil) (by decide +kernel)
/-- X8_rewind -/
def q4c : aCt := (69, [aR [1]], [], [(none, [(lLo, lHi)], [(1, 2, 0, 0)])], [(1, 2, 4)])
set_option maxRecDepth 100000 in
theorem q4 : vC tS tR jT 1 q4c := chkF_ok (D := 0) (hst := jTs) (T := []) (N := []) (sp := []) (fu := 14) (fa_nil) (by decide +kernel)
/-- X8_byteAtHead -/
def q5c : aCt := (71, [aR [1]], [], [(some (aI (-1) (-1)), [(lLo, lHi)], []), (some (aI 0 255), [(lLo, lHi)], [(1, 2, 0, 239)])], [])
set_option maxRecDepth 100000 in
theorem q5 : vC tS tR jT 1 q5c := chkF_ok (D := 0) (hst := jTs) (T := []) (N := []) (sp := []) (fu := 23) (fa_nil) (by decide +kernel)
/-- X8_ahead -/
def q6c : aCt := (72, [aR [1]], [], [(some (aI 0 255), [(lLo, lHi)], [(1, 2, 0, 239)]), (some (aI (-1) (-1)), [(lLo, lHi)], [])], [(1, 2, 3)])
set_option maxRecDepth 100000 in
theorem q6 : vC tS tR jT 2 q6c := chkL_ok (D := 1) (hst := jTs) (T := [q5c]) (fu := 24) (pc := 0) (L := [(0, aR [1])]) (a := 1) (i := 2) (lo := 0) (n := 241) (fa_cons (vUp q5 (by decide)) (fa_nil)) (by decide +kernel) (rng_of (by decide +kernel))
/-- X8_step -/
def q7c : aCt := (73, [aR [1]], [(1, 2, 0, 239)], [(none, [(lLo, lHi)], [(1, 2, 1, 240)])], [(1, 2, 3)])
set_option maxRecDepth 100000 in
theorem q7 : vC tS tR jT 1 q7c := chkF_ok (D := 0) (hst := jTs) (T := []) (N := []) (sp := []) (fu := 14) (fa_nil) (by decide +kernel)
/-- X9_readFrom -/
def q8c : aCt := (78, [aR [55], aR [1]], [], [(some (aI 0 240), [(lLo, lHi), (lLo, lHi)], []), (some (aI (-1) (-1)), [(lLo, lHi), (lLo, lHi)], [])], [(1, 2, 4), (55, 3, 4), (62, 0, 16)])
set_option maxRecDepth 100000 in
theorem q8 : vC tS tR jT 3 q8c := chkF_ok (D := 2) (hst := jTs) (T := [q4c, q6c, q7c]) (N := [(35, [(0, aR [55]), (1, aR [1]), (2, aI 48 55)], [(55, 3, 0, 0), (1, 2, 0, 239)], 15, []),
  (35, [(0, aR [55]), (1, aR [1]), (2, aI 48 55)], [(62, 0, 0, 7), (55, 3, 1, 1), (1, 2, 0, 239)], 14, []),
  (35, [(0, aR [55]), (1, aR [1]), (2, aI 48 55)], [(62, 0, 0, 7), (62, 1, 0, 7), (55, 3, 2, 2), (1, 2, 0, 239)], 13, []),
  (35, [(0, aR [55]), (1, aR [1]), (2, aI 48 55)], [(62, 0, 0, 7), (62, 1, 0, 7), (62, 2, 0, 7), (55, 3, 3, 3), (1, 2, 0, 239)], 12, []),
  (35, [(0, aR [55]), (1, aR [1]), (2, aI 48 55)], [(62, 0, 0, 7), (62, 1, 0, 7), (62, 2, 0, 7), (62, 3, 0, 7), (55, 3, 4, 4), (1, 2, 0, 239)], 11, []),
  (35, [(0, aR [55]), (1, aR [1]), (2, aI 48 55)], [(62, 0, 0, 7), (62, 1, 0, 7), (62, 2, 0, 7), (62, 3, 0, 7), (62, 4, 0, 7), (55, 3, 5, 5), (1, 2, 0, 239)], 10, []),
  (35, [(0, aR [55]), (1, aR [1]), (2, aI 48 55)], [(62, 0, 0, 7), (62, 1, 0, 7), (62, 2, 0, 7), (62, 3, 0, 7), (62, 4, 0, 7), (62, 5, 0, 7), (55, 3, 6, 6), (1, 2, 0, 239)], 9, []),
  (35, [(0, aR [55]), (1, aR [1]), (2, aI 48 55)], [(62, 0, 0, 7), (62, 1, 0, 7), (62, 2, 0, 7), (62, 3, 0, 7), (62, 4, 0, 7), (62, 5, 0, 7), (62, 6, 0, 7), (55, 3, 7, 7), (1, 2, 0, 239)], 8, []),
  (35, [(0, aR [55]), (1, aR [1]), (2, aI 48 55)], [(62, 0, 0, 7), (62, 1, 0, 7), (62, 2, 0, 7), (62, 3, 0, 7), (62, 4, 0, 7), (62, 5, 0, 7), (62, 6, 0, 7), (62, 7, 0, 7), (55, 3, 8, 8), (1, 2, 0, 239)], 7, []),
  (35, [(0, aR [55]), (1, aR [1]), (2, aI 48 55)], [(62, 0, 0, 7), (62, 1, 0, 7), (62, 2, 0, 7), (62, 3, 0, 7), (62, 4, 0, 7), (62, 5, 0, 7), (62, 6, 0, 7), (62, 7, 0, 7), (62, 8, 0, 7), (55, 3, 9, 9), (1, 2, 0, 239)], 6, []),
  (35, [(0, aR [55]), (1, aR [1]), (2, aI 48 55)], [(62, 0, 0, 7), (62, 1, 0, 7), (62, 2, 0, 7), (62, 3, 0, 7), (62, 4, 0, 7), (62, 5, 0, 7), (62, 6, 0, 7), (62, 7, 0, 7), (62, 8, 0, 7), (62, 9, 0, 7), (55, 3, 10, 10), (1, 2, 0, 239)], 5, []),
  (35, [(0, aR [55]), (1, aR [1]), (2, aI 48 55)], [(62, 0, 0, 7), (62, 1, 0, 7), (62, 2, 0, 7), (62, 3, 0, 7), (62, 4, 0, 7), (62, 5, 0, 7), (62, 6, 0, 7), (62, 7, 0, 7), (62, 8, 0, 7), (62, 9, 0, 7), (62, 10, 0, 7), (55, 3, 11, 11), (1, 2, 0, 239)], 4, []),
  (35, [(0, aR [55]), (1, aR [1]), (2, aI 48 55)], [(62, 0, 0, 7), (62, 1, 0, 7), (62, 2, 0, 7), (62, 3, 0, 7), (62, 4, 0, 7), (62, 5, 0, 7), (62, 6, 0, 7), (62, 7, 0, 7), (62, 8, 0, 7), (62, 9, 0, 7), (62, 10, 0, 7), (62, 11, 0, 7), (55, 3, 12, 12), (1, 2, 0, 239)], 3, []),
  (35, [(0, aR [55]), (1, aR [1]), (2, aI 48 55)], [(62, 0, 0, 7), (62, 1, 0, 7), (62, 2, 0, 7), (62, 3, 0, 7), (62, 4, 0, 7), (62, 5, 0, 7), (62, 6, 0, 7), (62, 7, 0, 7), (62, 8, 0, 7), (62, 9, 0, 7), (62, 10, 0, 7), (62, 11, 0, 7), (62, 12, 0, 7), (55, 3, 13, 13), (1, 2, 0, 239)], 2, []),
  (35, [(0, aR [55]), (1, aR [1]), (2, aI 48 55)], [(62, 0, 0, 7), (62, 1, 0, 7), (62, 2, 0, 7), (62, 3, 0, 7), (62, 4, 0, 7), (62, 5, 0, 7), (62, 6, 0, 7), (62, 7, 0, 7), (62, 8, 0, 7), (62, 9, 0, 7), (62, 10, 0, 7), (62, 11, 0, 7), (62, 12, 0, 7), (62, 13, 0, 7), (55, 3, 14, 14), (1, 2, 0, 239)], 1, []),
  (35, [(0, aR [55]), (1, aR [1]), (2, aI 48 55)], [(62, 0, 0, 7), (62, 1, 0, 7), (62, 2, 0, 7), (62, 3, 0, 7), (62, 4, 0, 7), (62, 5, 0, 7), (62, 6, 0, 7), (62, 7, 0, 7), (62, 8, 0, 7), (62, 9, 0, 7), (62, 10, 0, 7), (62, 11, 0, 7), (62, 12, 0, 7), (62, 13, 0, 7), (62, 14, 0, 7), (55, 3, 15, 15), (1, 2, 0, 239)], 0, [])]) (sp := []) (fu := 47) (fa_cons (vUp q4 (by decide)) (fa_cons (vUp q6 (by decide)) (fa_cons (vUp q7 (by decide)) (fa_nil)))) (by decide +kernel)
/-- X8_refuseHere -/
def q9c : aCt := (74, [aR [1]], [], [(some (aI 0 0), [(lLo, lHi)], [])], [(1, 3, 4)])
set_option maxRecDepth 100000 in
theorem q9 : vC tS tR jT 1 q9c := chkF_ok (D := 0) (hst := jTs) (T := []) (N := []) (sp := []) (fu := 13) (fa_nil) (by decide +kernel)
/-- X8_take -/
def q10c : aCt := (75, [aR [1], aI 121 121], [], [(some (aI 0 0), [(lLo, lHi), (121, 121)], []), (some (aI 1 1), [(lLo, lHi), (121, 121)], [(1, 2, 1, 240)])], [(1, 2, 4)])
set_option maxRecDepth 100000 in
theorem q10 : vC tS tR jT 3 q10c := chkF_ok (D := 2) (hst := jTs) (T := [q6c, q9c, q7c]) (N := []) (sp := []) (fu := 15) (fa_cons (vUp q6 (by decide)) (fa_cons (vUp q9 (by decide)) (fa_cons (vUp q7 (by decide)) (fa_nil)))) (by decide +kernel)
/-- X8_take -/
def q11c : aCt := (75, [aR [1], aI 58 58], [], [(some (aI 0 0), [(lLo, lHi), (58, 58)], []), (some (aI 1 1), [(lLo, lHi), (58, 58)], [(1, 2, 1, 240)])], [(1, 2, 4)])
set_option maxRecDepth 100000 in
theorem q11 : vC tS tR jT 3 q11c := chkF_ok (D := 2) (hst := jTs) (T := [q6c, q9c, q7c]) (N := []) (sp := []) (fu := 15) (fa_cons (vUp q6 (by decide)) (fa_cons (vUp q9 (by decide)) (fa_cons (vUp q7 (by decide)) (fa_nil)))) (by decide +kernel)
/-- X8_isDigit -/
def q12c : aCt := (70, [aI (-1) (-1)], [], [(some (aI 0 0), [((-1), (-1))], [])], [])
set_option maxRecDepth 100000 in
theorem q12 : vC tS tR jT 1 q12c := chkF_ok (D := 0) (hst := jTs) (T := []) (N := []) (sp := []) (fu := 12) (fa_nil) (by decide +kernel)
/-- X2_isLetter -/
def q13c : aCt := (22, [aI (-1) (-1)], [], [(some (aI 0 0), [((-1), (-1))], [])], [])
set_option maxRecDepth 100000 in
theorem q13 : vC tS tR jT 1 q13c := chkF_ok (D := 0) (hst := jTs) (T := []) (N := []) (sp := []) (fu := 27) (fa_nil) (by decide +kernel)
/-- X8_isDigit -/
def q14c : aCt := (70, [aI 0 255], [], [(some (aI 1 1), [(48, 57)], []), (some (aI 0 0), [(0, 255)], [])], [])
set_option maxRecDepth 100000 in
theorem q14 : vC tS tR jT 1 q14c := chkF_ok (D := 0) (hst := jTs) (T := []) (N := []) (sp := []) (fu := 16) (fa_nil) (by decide +kernel)
/-- X2_isLetter -/
def q15c : aCt := (22, [aI 0 255], [], [(some (aI 0 0), [(0, 255)], []), (some (aI 1 1), [(99, 121)], [])], [])
set_option maxRecDepth 100000 in
theorem q15 : vC tS tR jT 1 q15c := chkF_ok (D := 0) (hst := jTs) (T := []) (N := []) (sp := []) (fu := 28) (fa_nil) (by decide +kernel)
/-- X2_emit -/
def q16c : aCt := (24, [aR [45], aIt], [], [(none, [(lLo, lHi), (iLo, iHi)], [])], [(45, 2, 3), (46, 0, 240)])
set_option maxRecDepth 100000 in
theorem q16 : vC tS tR jT 1 q16c := chkF_ok (D := 0) (hst := jTs) (T := []) (N := []) (sp := []) (fu := 24) (fa_nil) (by decide +kernel)
/-- X8_takeNumber -/
def q17c : aCt := (76, [aR [1], aI 4 4, aI 0 0, aI 9999 9999], [], [(some (aI 0 9999), [(lLo, lHi), (lLo, lHi), (lLo, lHi), (lLo, lHi)], []), (some (aI (-1) (-1)), [(lLo, lHi), (lLo, lHi), (lLo, lHi), (lLo, lHi)], [])], [(1, 2, 4)])
set_option maxRecDepth 100000 in
theorem q17 : vC tS tR jT 3 q17c := chkF_ok (D := 2) (hst := jTs) (T := [q6c, q5c, q14c, q12c]) (N := [(11, [(0, aR [1]), (1, aI 4 4), (2, aI 0 0), (3, aI 9999 9999), (4, aIt), (5, aI 0 4)], [], 0, [(5, 1, 4, true)])]) (sp := []) (fu := 34) (fa_cons (vUp q6 (by decide)) (fa_cons (vUp q5 (by decide)) (fa_cons (vUp q14 (by decide)) (fa_cons (vUp q12 (by decide)) (fa_nil))))) (by decide +kernel)
/-- X2_readAtom -/
def q18c : aCt := (21, [aR [45], aI 6 6], [], [(some (aI 0 0), [(lLo, lHi), (6, 6)], []), (some (aI 1 1), [(lLo, lHi), (6, 6)], [])], [(1, 2, 4), (45, 2, 3), (46, 0, 240)])
set_option maxRecDepth 100000 in
theorem q18 : vC tS tR jT 4 q18c := chkF_ok (D := 3) (hst := jTs) (T := [q6c, q12c, q13c, q9c, q14c, q15c, q7c, q16c, q17c]) (N := []) (sp := []) (fu := 29) (fa_cons (vUp q6 (by decide)) (fa_cons (vUp q12 (by decide)) (fa_cons (vUp q13 (by decide)) (fa_cons (vUp q9 (by decide)) (fa_cons (vUp q14 (by decide)) (fa_cons (vUp q15 (by decide)) (fa_cons (vUp q7 (by decide)) (fa_cons (vUp q16 (by decide)) (fa_cons (vUp q17 (by decide)) (fa_nil)))))))))) (by decide +kernel)
/-- X2_readTerm -/
def q19c : aCt := (20, [aR [45], aI 6 6], [], [(some (aI 0 0), [(lLo, lHi), (lLo, lHi)], []), (some (aI 1 1), [(lLo, lHi), (lLo, lHi)], [])], [(1, 2, 4), (45, 2, 3), (46, 0, 240)])
set_option maxRecDepth 100000 in
theorem q19 : vC tS tR jT 5 q19c := chkF_ok (D := 4) (hst := jTs) (T := [q18c, q6c, q7c, q16c]) (N := [(12, [(0, aR [45]), (1, aI 6 6), (2, aI 0 240)], [], 0, [(2, 1, 240, true)])]) (sp := []) (fu := 34) (fa_cons (vUp q18 (by decide)) (fa_cons (vUp q6 (by decide)) (fa_cons (vUp q7 (by decide)) (fa_cons (vUp q16 (by decide)) (fa_nil))))) (by decide +kernel)
/-- X2_readSum -/
def q20c : aCt := (19, [aR [45], aI 6 6], [], [(some (aI 0 0), [(lLo, lHi), (lLo, lHi)], []), (some (aI 1 1), [(lLo, lHi), (lLo, lHi)], [])], [(1, 2, 4), (45, 2, 3), (46, 0, 240)])
set_option maxRecDepth 100000 in
theorem q20 : vC tS tR jT 6 q20c := chkF_ok (D := 5) (hst := jTs) (T := [q19c, q6c, q7c, q16c]) (N := [(12, [(0, aR [45]), (1, aI 6 6), (2, aI 0 240)], [], 0, [(2, 1, 240, true)])]) (sp := []) (fu := 34) (fa_cons (vUp q19 (by decide)) (fa_cons (vUp q6 (by decide)) (fa_cons (vUp q7 (by decide)) (fa_cons (vUp q16 (by decide)) (fa_nil))))) (by decide +kernel)
/-- X8_take -/
def q21c : aCt := (75, [aR [1], aI 93 93], [], [(some (aI 0 0), [(lLo, lHi), (93, 93)], []), (some (aI 1 1), [(lLo, lHi), (93, 93)], [(1, 2, 1, 240)])], [(1, 2, 4)])
set_option maxRecDepth 100000 in
theorem q21 : vC tS tR jT 3 q21c := chkF_ok (D := 2) (hst := jTs) (T := [q6c, q9c, q7c]) (N := []) (sp := []) (fu := 15) (fa_cons (vUp q6 (by decide)) (fa_cons (vUp q9 (by decide)) (fa_cons (vUp q7 (by decide)) (fa_nil)))) (by decide +kernel)
/-- X2_readAtom -/
def q22c : aCt := (21, [aR [45], aI 5 5], [], [(some (aI 0 0), [(lLo, lHi), (5, 5)], []), (some (aI 1 1), [(lLo, lHi), (5, 5)], [])], [(1, 2, 4), (45, 2, 3), (46, 0, 240)])
set_option maxRecDepth 100000 in
theorem q22 : vC tS tR jT 7 q22c := chkF_ok (D := 6) (hst := jTs) (T := [q6c, q12c, q13c, q9c, q14c, q15c, q7c, q16c, q20c, q21c, q17c]) (N := []) (sp := []) (fu := 40) (fa_cons (vUp q6 (by decide)) (fa_cons (vUp q12 (by decide)) (fa_cons (vUp q13 (by decide)) (fa_cons (vUp q9 (by decide)) (fa_cons (vUp q14 (by decide)) (fa_cons (vUp q15 (by decide)) (fa_cons (vUp q7 (by decide)) (fa_cons (vUp q16 (by decide)) (fa_cons (vUp q20 (by decide)) (fa_cons (vUp q21 (by decide)) (fa_cons (vUp q17 (by decide)) (fa_nil)))))))))))) (by decide +kernel)
/-- X2_readTerm -/
def q23c : aCt := (20, [aR [45], aI 5 5], [], [(some (aI 0 0), [(lLo, lHi), (lLo, lHi)], []), (some (aI 1 1), [(lLo, lHi), (lLo, lHi)], [])], [(1, 2, 4), (45, 2, 3), (46, 0, 240)])
set_option maxRecDepth 100000 in
theorem q23 : vC tS tR jT 8 q23c := chkF_ok (D := 7) (hst := jTs) (T := [q22c, q6c, q7c, q16c]) (N := [(12, [(0, aR [45]), (1, aI 5 5), (2, aI 0 240)], [], 0, [(2, 1, 240, true)])]) (sp := []) (fu := 34) (fa_cons (vUp q22 (by decide)) (fa_cons (vUp q6 (by decide)) (fa_cons (vUp q7 (by decide)) (fa_cons (vUp q16 (by decide)) (fa_nil))))) (by decide +kernel)
/-- X2_readSum -/
def q24c : aCt := (19, [aR [45], aI 5 5], [], [(some (aI 0 0), [(lLo, lHi), (lLo, lHi)], []), (some (aI 1 1), [(lLo, lHi), (lLo, lHi)], [])], [(1, 2, 4), (45, 2, 3), (46, 0, 240)])
set_option maxRecDepth 100000 in
theorem q24 : vC tS tR jT 9 q24c := chkF_ok (D := 8) (hst := jTs) (T := [q23c, q6c, q7c, q16c]) (N := [(12, [(0, aR [45]), (1, aI 5 5), (2, aI 0 240)], [], 0, [(2, 1, 240, true)])]) (sp := []) (fu := 34) (fa_cons (vUp q23 (by decide)) (fa_cons (vUp q6 (by decide)) (fa_cons (vUp q7 (by decide)) (fa_cons (vUp q16 (by decide)) (fa_nil))))) (by decide +kernel)
/-- X2_readAtom -/
def q25c : aCt := (21, [aR [45], aI 4 4], [], [(some (aI 0 0), [(lLo, lHi), (4, 4)], []), (some (aI 1 1), [(lLo, lHi), (4, 4)], [])], [(1, 2, 4), (45, 2, 3), (46, 0, 240)])
set_option maxRecDepth 100000 in
theorem q25 : vC tS tR jT 10 q25c := chkF_ok (D := 9) (hst := jTs) (T := [q6c, q12c, q13c, q9c, q14c, q15c, q7c, q16c, q24c, q21c, q17c]) (N := []) (sp := []) (fu := 40) (fa_cons (vUp q6 (by decide)) (fa_cons (vUp q12 (by decide)) (fa_cons (vUp q13 (by decide)) (fa_cons (vUp q9 (by decide)) (fa_cons (vUp q14 (by decide)) (fa_cons (vUp q15 (by decide)) (fa_cons (vUp q7 (by decide)) (fa_cons (vUp q16 (by decide)) (fa_cons (vUp q24 (by decide)) (fa_cons (vUp q21 (by decide)) (fa_cons (vUp q17 (by decide)) (fa_nil)))))))))))) (by decide +kernel)
/-- X2_readTerm -/
def q26c : aCt := (20, [aR [45], aI 4 4], [], [(some (aI 0 0), [(lLo, lHi), (lLo, lHi)], []), (some (aI 1 1), [(lLo, lHi), (lLo, lHi)], [])], [(1, 2, 4), (45, 2, 3), (46, 0, 240)])
set_option maxRecDepth 100000 in
theorem q26 : vC tS tR jT 11 q26c := chkF_ok (D := 10) (hst := jTs) (T := [q25c, q6c, q7c, q16c]) (N := [(12, [(0, aR [45]), (1, aI 4 4), (2, aI 0 240)], [], 0, [(2, 1, 240, true)])]) (sp := []) (fu := 34) (fa_cons (vUp q25 (by decide)) (fa_cons (vUp q6 (by decide)) (fa_cons (vUp q7 (by decide)) (fa_cons (vUp q16 (by decide)) (fa_nil))))) (by decide +kernel)
