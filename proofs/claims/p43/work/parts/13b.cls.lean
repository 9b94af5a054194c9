/-! L2: contracts of the class -/
/-- X2_readSum -/
def q27c : aCt := (19, [aR [45], aI 4 4], [], [(some (aI 0 0), [(lLo, lHi), (lLo, lHi)], []), (some (aI 1 1), [(lLo, lHi), (lLo, lHi)], [])], [(1, 2, 4), (45, 2, 3), (46, 0, 240)])
set_option maxRecDepth 100000 in
theorem q27 : vC tS tR jT 12 q27c := chkF_ok (D := 11) (hst := jTs) (T := [q26c, q6c, q7c, q16c]) (N := [(12, [(0, aR [45]), (1, aI 4 4), (2, aI 0 240)], [], 0, [(2, 1, 240, true)])]) (sp := []) (fu := 34) (fa_cons (vUp q26 (by decide)) (fa_cons (vUp q6 (by decide)) (fa_cons (vUp q7 (by decide)) (fa_cons (vUp q16 (by decide)) (fa_nil))))) (by decide +kernel)
/-- X2_readAtom -/
def q28c : aCt := (21, [aR [45], aI 3 3], [], [(some (aI 0 0), [(lLo, lHi), (3, 3)], []), (some (aI 1 1), [(lLo, lHi), (3, 3)], [])], [(1, 2, 4), (45, 2, 3), (46, 0, 240)])
set_option maxRecDepth 100000 in
theorem q28 : vC tS tR jT 13 q28c := chkF_ok (D := 12) (hst := jTs) (T := [q6c, q12c, q13c, q9c, q14c, q15c, q7c, q16c, q27c, q21c, q17c]) (N := []) (sp := []) (fu := 40) (fa_cons (vUp q6 (by decide)) (fa_cons (vUp q12 (by decide)) (fa_cons (vUp q13 (by decide)) (fa_cons (vUp q9 (by decide)) (fa_cons (vUp q14 (by decide)) (fa_cons (vUp q15 (by decide)) (fa_cons (vUp q7 (by decide)) (fa_cons (vUp q16 (by decide)) (fa_cons (vUp q27 (by decide)) (fa_cons (vUp q21 (by decide)) (fa_cons (vUp q17 (by decide)) (fa_nil)))))))))))) (by decide +kernel)
/-- X2_readTerm -/
def q29c : aCt := (20, [aR [45], aI 3 3], [], [(some (aI 0 0), [(lLo, lHi), (lLo, lHi)], []), (some (aI 1 1), [(lLo, lHi), (lLo, lHi)], [])], [(1, 2, 4), (45, 2, 3), (46, 0, 240)])
set_option maxRecDepth 100000 in
theorem q29 : vC tS tR jT 14 q29c := chkF_ok (D := 13) (hst := jTs) (T := [q28c, q6c, q7c, q16c]) (N := [(12, [(0, aR [45]), (1, aI 3 3), (2, aI 0 240)], [], 0, [(2, 1, 240, true)])]) (sp := []) (fu := 34) (fa_cons (vUp q28 (by decide)) (fa_cons (vUp q6 (by decide)) (fa_cons (vUp q7 (by decide)) (fa_cons (vUp q16 (by decide)) (fa_nil))))) (by decide +kernel)
/-- X2_readSum -/
def q30c : aCt := (19, [aR [45], aI 3 3], [], [(some (aI 0 0), [(lLo, lHi), (lLo, lHi)], []), (some (aI 1 1), [(lLo, lHi), (lLo, lHi)], [])], [(1, 2, 4), (45, 2, 3), (46, 0, 240)])
set_option maxRecDepth 100000 in
theorem q30 : vC tS tR jT 15 q30c := chkF_ok (D := 14) (hst := jTs) (T := [q29c, q6c, q7c, q16c]) (N := [(12, [(0, aR [45]), (1, aI 3 3), (2, aI 0 240)], [], 0, [(2, 1, 240, true)])]) (sp := []) (fu := 34) (fa_cons (vUp q29 (by decide)) (fa_cons (vUp q6 (by decide)) (fa_cons (vUp q7 (by decide)) (fa_cons (vUp q16 (by decide)) (fa_nil))))) (by decide +kernel)
/-- X2_readAtom -/
def q31c : aCt := (21, [aR [45], aI 2 2], [], [(some (aI 0 0), [(lLo, lHi), (2, 2)], []), (some (aI 1 1), [(lLo, lHi), (2, 2)], [])], [(1, 2, 4), (45, 2, 3), (46, 0, 240)])
set_option maxRecDepth 100000 in
theorem q31 : vC tS tR jT 16 q31c := chkF_ok (D := 15) (hst := jTs) (T := [q6c, q12c, q13c, q9c, q14c, q15c, q7c, q16c, q30c, q21c, q17c]) (N := []) (sp := []) (fu := 40) (fa_cons (vUp q6 (by decide)) (fa_cons (vUp q12 (by decide)) (fa_cons (vUp q13 (by decide)) (fa_cons (vUp q9 (by decide)) (fa_cons (vUp q14 (by decide)) (fa_cons (vUp q15 (by decide)) (fa_cons (vUp q7 (by decide)) (fa_cons (vUp q16 (by decide)) (fa_cons (vUp q30 (by decide)) (fa_cons (vUp q21 (by decide)) (fa_cons (vUp q17 (by decide)) (fa_nil)))))))))))) (by decide +kernel)
/-- X2_readTerm -/
def q32c : aCt := (20, [aR [45], aI 2 2], [], [(some (aI 0 0), [(lLo, lHi), (lLo, lHi)], []), (some (aI 1 1), [(lLo, lHi), (lLo, lHi)], [])], [(1, 2, 4), (45, 2, 3), (46, 0, 240)])
set_option maxRecDepth 100000 in
theorem q32 : vC tS tR jT 17 q32c := chkF_ok (D := 16) (hst := jTs) (T := [q31c, q6c, q7c, q16c]) (N := [(12, [(0, aR [45]), (1, aI 2 2), (2, aI 0 240)], [], 0, [(2, 1, 240, true)])]) (sp := []) (fu := 34) (fa_cons (vUp q31 (by decide)) (fa_cons (vUp q6 (by decide)) (fa_cons (vUp q7 (by decide)) (fa_cons (vUp q16 (by decide)) (fa_nil))))) (by decide +kernel)
/-- X2_readSum -/
def q33c : aCt := (19, [aR [45], aI 2 2], [], [(some (aI 0 0), [(lLo, lHi), (lLo, lHi)], []), (some (aI 1 1), [(lLo, lHi), (lLo, lHi)], [])], [(1, 2, 4), (45, 2, 3), (46, 0, 240)])
set_option maxRecDepth 100000 in
theorem q33 : vC tS tR jT 18 q33c := chkF_ok (D := 17) (hst := jTs) (T := [q32c, q6c, q7c, q16c]) (N := [(12, [(0, aR [45]), (1, aI 2 2), (2, aI 0 240)], [], 0, [(2, 1, 240, true)])]) (sp := []) (fu := 34) (fa_cons (vUp q32 (by decide)) (fa_cons (vUp q6 (by decide)) (fa_cons (vUp q7 (by decide)) (fa_cons (vUp q16 (by decide)) (fa_nil))))) (by decide +kernel)
/-- X2_readAtom -/
def q34c : aCt := (21, [aR [45], aI 1 1], [], [(some (aI 0 0), [(lLo, lHi), (1, 1)], []), (some (aI 1 1), [(lLo, lHi), (1, 1)], [])], [(1, 2, 4), (45, 2, 3), (46, 0, 240)])
set_option maxRecDepth 100000 in
theorem q34 : vC tS tR jT 19 q34c := chkF_ok (D := 18) (hst := jTs) (T := [q6c, q12c, q13c, q9c, q14c, q15c, q7c, q16c, q33c, q21c, q17c]) (N := []) (sp := []) (fu := 40) (fa_cons (vUp q6 (by decide)) (fa_cons (vUp q12 (by decide)) (fa_cons (vUp q13 (by decide)) (fa_cons (vUp q9 (by decide)) (fa_cons (vUp q14 (by decide)) (fa_cons (vUp q15 (by decide)) (fa_cons (vUp q7 (by decide)) (fa_cons (vUp q16 (by decide)) (fa_cons (vUp q33 (by decide)) (fa_cons (vUp q21 (by decide)) (fa_cons (vUp q17 (by decide)) (fa_nil)))))))))))) (by decide +kernel)
/-- X2_readTerm -/
def q35c : aCt := (20, [aR [45], aI 1 1], [], [(some (aI 0 0), [(lLo, lHi), (lLo, lHi)], []), (some (aI 1 1), [(lLo, lHi), (lLo, lHi)], [])], [(1, 2, 4), (45, 2, 3), (46, 0, 240)])
set_option maxRecDepth 100000 in
theorem q35 : vC tS tR jT 20 q35c := chkF_ok (D := 19) (hst := jTs) (T := [q34c, q6c, q7c, q16c]) (N := [(12, [(0, aR [45]), (1, aI 1 1), (2, aI 0 240)], [], 0, [(2, 1, 240, true)])]) (sp := []) (fu := 34) (fa_cons (vUp q34 (by decide)) (fa_cons (vUp q6 (by decide)) (fa_cons (vUp q7 (by decide)) (fa_cons (vUp q16 (by decide)) (fa_nil))))) (by decide +kernel)
/-- X2_readSum -/
def q36c : aCt := (19, [aR [45], aI 1 1], [], [(some (aI 0 0), [(lLo, lHi), (lLo, lHi)], []), (some (aI 1 1), [(lLo, lHi), (lLo, lHi)], [])], [(1, 2, 4), (45, 2, 3), (46, 0, 240)])
set_option maxRecDepth 100000 in
theorem q36 : vC tS tR jT 21 q36c := chkF_ok (D := 20) (hst := jTs) (T := [q35c, q6c, q7c, q16c]) (N := [(12, [(0, aR [45]), (1, aI 1 1), (2, aI 0 240)], [], 0, [(2, 1, 240, true)])]) (sp := []) (fu := 34) (fa_cons (vUp q35 (by decide)) (fa_cons (vUp q6 (by decide)) (fa_cons (vUp q7 (by decide)) (fa_cons (vUp q16 (by decide)) (fa_nil))))) (by decide +kernel)
/-- X2_readAtom -/
def q37c : aCt := (21, [aR [45], aI 0 0], [], [(some (aI 0 0), [(lLo, lHi), (0, 0)], []), (some (aI 1 1), [(lLo, lHi), (0, 0)], [])], [(1, 2, 4), (45, 2, 3), (46, 0, 240)])
set_option maxRecDepth 100000 in
theorem q37 : vC tS tR jT 22 q37c := chkF_ok (D := 21) (hst := jTs) (T := [q6c, q12c, q13c, q9c, q14c, q15c, q7c, q16c, q36c, q21c, q17c]) (N := []) (sp := []) (fu := 40) (fa_cons (vUp q6 (by decide)) (fa_cons (vUp q12 (by decide)) (fa_cons (vUp q13 (by decide)) (fa_cons (vUp q9 (by decide)) (fa_cons (vUp q14 (by decide)) (fa_cons (vUp q15 (by decide)) (fa_cons (vUp q7 (by decide)) (fa_cons (vUp q16 (by decide)) (fa_cons (vUp q36 (by decide)) (fa_cons (vUp q21 (by decide)) (fa_cons (vUp q17 (by decide)) (fa_nil)))))))))))) (by decide +kernel)
/-- X2_readTerm -/
def q38c : aCt := (20, [aR [45], aI 0 0], [], [(some (aI 0 0), [(lLo, lHi), (lLo, lHi)], []), (some (aI 1 1), [(lLo, lHi), (lLo, lHi)], [])], [(1, 2, 4), (45, 2, 3), (46, 0, 240)])
set_option maxRecDepth 100000 in
theorem q38 : vC tS tR jT 23 q38c := chkF_ok (D := 22) (hst := jTs) (T := [q37c, q6c, q7c, q16c]) (N := [(12, [(0, aR [45]), (1, aI 0 0), (2, aI 0 240)], [], 0, [(2, 1, 240, true)])]) (sp := []) (fu := 34) (fa_cons (vUp q37 (by decide)) (fa_cons (vUp q6 (by decide)) (fa_cons (vUp q7 (by decide)) (fa_cons (vUp q16 (by decide)) (fa_nil))))) (by decide +kernel)
/-- X2_readSum -/
def q39c : aCt := (19, [aR [45], aI 0 0], [], [(some (aI 0 0), [(lLo, lHi), (lLo, lHi)], []), (some (aI 1 1), [(lLo, lHi), (lLo, lHi)], [])], [(1, 2, 4), (45, 2, 3), (46, 0, 240)])
set_option maxRecDepth 100000 in
theorem q39 : vC tS tR jT 24 q39c := chkF_ok (D := 23) (hst := jTs) (T := [q38c, q6c, q7c, q16c]) (N := [(12, [(0, aR [45]), (1, aI 0 0), (2, aI 0 240)], [], 0, [(2, 1, 240, true)])]) (sp := []) (fu := 34) (fa_cons (vUp q38 (by decide)) (fa_cons (vUp q6 (by decide)) (fa_cons (vUp q7 (by decide)) (fa_cons (vUp q16 (by decide)) (fa_nil))))) (by decide +kernel)
/-- X2_isRelation -/
def q40c : aCt := (23, [aI (-1) (-1)], [], [(some (aI 0 0), [((-1), (-1))], [])], [])
set_option maxRecDepth 100000 in
theorem q40 : vC tS tR jT 1 q40c := chkF_ok (D := 0) (hst := jTs) (T := []) (N := []) (sp := []) (fu := 18) (fa_nil) (by decide +kernel)
/-- X2_isRelation -/
def q41c : aCt := (23, [aI 0 255], [], [(some (aI 0 0), [(0, 255)], []), (some (aI 1 1), [(60, 62)], [])], [])
set_option maxRecDepth 100000 in
theorem q41 : vC tS tR jT 1 q41c := chkF_ok (D := 0) (hst := jTs) (T := []) (N := []) (sp := []) (fu := 19) (fa_nil) (by decide +kernel)
/-- X2_readUnit -/
def q42c : aCt := (17, [aR [45], aI 0 0, aI 1 1], [], [(some (aI 0 0), [(lLo, lHi), (0, 0), (1, 1)], []), (some (aI 1 1), [(lLo, lHi), (0, 0), (1, 1)], [])], [(1, 2, 4), (45, 2, 3), (46, 0, 240)])
set_option maxRecDepth 100000 in
theorem q42 : vC tS tR jT 25 q42c := chkF_ok (D := 24) (hst := jTs) (T := [q6c, q40c, q9c, q41c, q7c, q39c, q16c]) (N := []) (sp := []) (fu := 29) (fa_cons (vUp q6 (by decide)) (fa_cons (vUp q40 (by decide)) (fa_cons (vUp q9 (by decide)) (fa_cons (vUp q41 (by decide)) (fa_cons (vUp q7 (by decide)) (fa_cons (vUp q39 (by decide)) (fa_cons (vUp q16 (by decide)) (fa_nil)))))))) (by decide +kernel)
/-- X2_readNested -/
def q43c : aCt := (18, [aR [45], aI 6 6, aIt], [(1, 2, 0, 239)], [(some (aI 0 0), [(lLo, lHi), (6, 6), (iLo, iHi)], [(1, 2, 0, 239)])], [(1, 3, 4)])
set_option maxRecDepth 100000 in
theorem q43 : vC tS tR jT 2 q43c := chkF_ok (D := 1) (hst := jTs) (T := [q9c]) (N := []) (sp := []) (fu := 14) (fa_cons (vUp q9 (by decide)) (fa_nil)) (by decide +kernel)
/-- X2_readUnit -/
def q44c : aCt := (17, [aR [45], aI 6 6, aI 0 0], [], [(some (aI 0 0), [(lLo, lHi), (6, 6), (0, 0)], []), (some (aI 1 1), [(lLo, lHi), (6, 6), (0, 0)], [])], [(1, 2, 4), (45, 2, 3), (46, 0, 240)])
set_option maxRecDepth 100000 in
theorem q44 : vC tS tR jT 7 q44c := chkF_ok (D := 6) (hst := jTs) (T := [q6c, q20c, q40c, q9c, q41c, q7c, q16c, q43c]) (N := []) (sp := []) (fu := 43) (fa_cons (vUp q6 (by decide)) (fa_cons (vUp q20 (by decide)) (fa_cons (vUp q40 (by decide)) (fa_cons (vUp q9 (by decide)) (fa_cons (vUp q41 (by decide)) (fa_cons (vUp q7 (by decide)) (fa_cons (vUp q16 (by decide)) (fa_cons (vUp q43 (by decide)) (fa_nil))))))))) (by decide +kernel)
/-- X2_readTruth -/
def q45c : aCt := (16, [aR [45], aI 6 6, aI 0 0], [], [(some (aI 0 0), [(lLo, lHi), (lLo, lHi), (lLo, lHi)], []), (some (aI 1 1), [(lLo, lHi), (lLo, lHi), (lLo, lHi)], [])], [(1, 2, 4), (45, 2, 3), (46, 0, 240)])
set_option maxRecDepth 100000 in
theorem q45 : vC tS tR jT 8 q45c := chkF_ok (D := 7) (hst := jTs) (T := [q44c, q6c, q7c, q16c]) (N := [(13, [(0, aR [45]), (1, aI 6 6), (2, aI 0 0), (3, aI 0 240)], [], 0, [(3, 1, 240, true)])]) (sp := []) (fu := 29) (fa_cons (vUp q44 (by decide)) (fa_cons (vUp q6 (by decide)) (fa_cons (vUp q7 (by decide)) (fa_cons (vUp q16 (by decide)) (fa_nil))))) (by decide +kernel)
/-- X2_readCondition -/
def q46c : aCt := (15, [aR [45], aI 6 6, aI 0 0], [], [(some (aI 0 0), [(lLo, lHi), (lLo, lHi), (lLo, lHi)], []), (some (aI 1 1), [(lLo, lHi), (lLo, lHi), (lLo, lHi)], [])], [(1, 2, 4), (45, 2, 3), (46, 0, 240)])
set_option maxRecDepth 100000 in
theorem q46 : vC tS tR jT 9 q46c := chkF_ok (D := 8) (hst := jTs) (T := [q45c, q6c, q7c, q16c]) (N := [(13, [(0, aR [45]), (1, aI 6 6), (2, aI 0 0), (3, aI 0 240)], [], 0, [(3, 1, 240, true)])]) (sp := []) (fu := 29) (fa_cons (vUp q45 (by decide)) (fa_cons (vUp q6 (by decide)) (fa_cons (vUp q7 (by decide)) (fa_cons (vUp q16 (by decide)) (fa_nil))))) (by decide +kernel)
/-- X8_take -/
def q47c : aCt := (75, [aR [1], aI 41 41], [], [(some (aI 0 0), [(lLo, lHi), (41, 41)], []), (some (aI 1 1), [(lLo, lHi), (41, 41)], [(1, 2, 1, 240)])], [(1, 2, 4)])
set_option maxRecDepth 100000 in
theorem q47 : vC tS tR jT 3 q47c := chkF_ok (D := 2) (hst := jTs) (T := [q6c, q9c, q7c]) (N := []) (sp := []) (fu := 15) (fa_cons (vUp q6 (by decide)) (fa_cons (vUp q9 (by decide)) (fa_cons (vUp q7 (by decide)) (fa_nil)))) (by decide +kernel)
/-- X2_readNested -/
def q48c : aCt := (18, [aR [45], aI 5 5, aIt], [(1, 2, 0, 239)], [(some (aI 1 1), [(lLo, lHi), (5, 5), (iLo, iHi)], []), (some (aI 0 0), [(lLo, lHi), (5, 5), (iLo, iHi)], [])], [(1, 2, 4), (45, 2, 3), (46, 0, 240)])
set_option maxRecDepth 100000 in
theorem q48 : vC tS tR jT 10 q48c := chkF_ok (D := 9) (hst := jTs) (T := [q7c, q44c, q16c, q46c, q47c]) (N := []) (sp := []) (fu := 31) (fa_cons (vUp q7 (by decide)) (fa_cons (vUp q44 (by decide)) (fa_cons (vUp q16 (by decide)) (fa_cons (vUp q46 (by decide)) (fa_cons (vUp q47 (by decide)) (fa_nil)))))) (by decide +kernel)
/-- X2_readUnit -/
def q49c : aCt := (17, [aR [45], aI 5 5, aI 0 0], [], [(some (aI 0 0), [(lLo, lHi), (5, 5), (0, 0)], []), (some (aI 1 1), [(lLo, lHi), (5, 5), (0, 0)], [])], [(1, 2, 4), (45, 2, 3), (46, 0, 240)])
set_option maxRecDepth 100000 in
theorem q49 : vC tS tR jT 11 q49c := chkF_ok (D := 10) (hst := jTs) (T := [q6c, q24c, q40c, q9c, q41c, q7c, q16c, q48c]) (N := []) (sp := []) (fu := 43) (fa_cons (vUp q6 (by decide)) (fa_cons (vUp q24 (by decide)) (fa_cons (vUp q40 (by decide)) (fa_cons (vUp q9 (by decide)) (fa_cons (vUp q41 (by decide)) (fa_cons (vUp q7 (by decide)) (fa_cons (vUp q16 (by decide)) (fa_cons (vUp q48 (by decide)) (fa_nil))))))))) (by decide +kernel)
/-- X2_readTruth -/
def q50c : aCt := (16, [aR [45], aI 5 5, aI 0 0], [], [(some (aI 0 0), [(lLo, lHi), (lLo, lHi), (lLo, lHi)], []), (some (aI 1 1), [(lLo, lHi), (lLo, lHi), (lLo, lHi)], [])], [(1, 2, 4), (45, 2, 3), (46, 0, 240)])
set_option maxRecDepth 100000 in
theorem q50 : vC tS tR jT 12 q50c := chkF_ok (D := 11) (hst := jTs) (T := [q49c, q6c, q7c, q16c]) (N := [(13, [(0, aR [45]), (1, aI 5 5), (2, aI 0 0), (3, aI 0 240)], [], 0, [(3, 1, 240, true)])]) (sp := []) (fu := 29) (fa_cons (vUp q49 (by decide)) (fa_cons (vUp q6 (by decide)) (fa_cons (vUp q7 (by decide)) (fa_cons (vUp q16 (by decide)) (fa_nil))))) (by decide +kernel)
/-- X2_readCondition -/
def q51c : aCt := (15, [aR [45], aI 5 5, aI 0 0], [], [(some (aI 0 0), [(lLo, lHi), (lLo, lHi), (lLo, lHi)], []), (some (aI 1 1), [(lLo, lHi), (lLo, lHi), (lLo, lHi)], [])], [(1, 2, 4), (45, 2, 3), (46, 0, 240)])
set_option maxRecDepth 100000 in
theorem q51 : vC tS tR jT 13 q51c := chkF_ok (D := 12) (hst := jTs) (T := [q50c, q6c, q7c, q16c]) (N := [(13, [(0, aR [45]), (1, aI 5 5), (2, aI 0 0), (3, aI 0 240)], [], 0, [(3, 1, 240, true)])]) (sp := []) (fu := 29) (fa_cons (vUp q50 (by decide)) (fa_cons (vUp q6 (by decide)) (fa_cons (vUp q7 (by decide)) (fa_cons (vUp q16 (by decide)) (fa_nil))))) (by decide +kernel)
/-- X2_readNested -/
def q52c : aCt := (18, [aR [45], aI 4 4, aIt], [(1, 2, 0, 239)], [(some (aI 1 1), [(lLo, lHi), (4, 4), (iLo, iHi)], []), (some (aI 0 0), [(lLo, lHi), (4, 4), (iLo, iHi)], [])], [(1, 2, 4), (45, 2, 3), (46, 0, 240)])
set_option maxRecDepth 100000 in
theorem q52 : vC tS tR jT 14 q52c := chkF_ok (D := 13) (hst := jTs) (T := [q7c, q49c, q16c, q51c, q47c]) (N := []) (sp := []) (fu := 31) (fa_cons (vUp q7 (by decide)) (fa_cons (vUp q49 (by decide)) (fa_cons (vUp q16 (by decide)) (fa_cons (vUp q51 (by decide)) (fa_cons (vUp q47 (by decide)) (fa_nil)))))) (by decide +kernel)
/-- X2_readUnit -/
def q53c : aCt := (17, [aR [45], aI 4 4, aI 0 0], [], [(some (aI 0 0), [(lLo, lHi), (4, 4), (0, 0)], []), (some (aI 1 1), [(lLo, lHi), (4, 4), (0, 0)], [])], [(1, 2, 4), (45, 2, 3), (46, 0, 240)])
set_option maxRecDepth 100000 in
theorem q53 : vC tS tR jT 15 q53c := chkF_ok (D := 14) (hst := jTs) (T := [q6c, q27c, q40c, q9c, q41c, q7c, q16c, q52c]) (N := []) (sp := []) (fu := 43) (fa_cons (vUp q6 (by decide)) (fa_cons (vUp q27 (by decide)) (fa_cons (vUp q40 (by decide)) (fa_cons (vUp q9 (by decide)) (fa_cons (vUp q41 (by decide)) (fa_cons (vUp q7 (by decide)) (fa_cons (vUp q16 (by decide)) (fa_cons (vUp q52 (by decide)) (fa_nil))))))))) (by decide +kernel)
