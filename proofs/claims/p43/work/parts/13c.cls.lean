/-! L2: contracts of the class -/
/-- X2_readTruth -/
def q54c : aCt := (16, [aR [45], aI 4 4, aI 0 0], [], [(some (aI 0 0), [(lLo, lHi), (lLo, lHi), (lLo, lHi)], []), (some (aI 1 1), [(lLo, lHi), (lLo, lHi), (lLo, lHi)], [])], [(1, 2, 4), (45, 2, 3), (46, 0, 240)])
set_option maxRecDepth 100000 in
theorem q54 : vC tS tR jT 16 q54c := chkF_ok (D := 15) (hst := jTs) (T := [q53c, q6c, q7c, q16c]) (N := [(13, [(0, aR [45]), (1, aI 4 4), (2, aI 0 0), (3, aI 0 240)], [], 0, [(3, 1, 240, true)])]) (sp := []) (fu := 29) (fa_cons (vUp q53 (by decide)) (fa_cons (vUp q6 (by decide)) (fa_cons (vUp q7 (by decide)) (fa_cons (vUp q16 (by decide)) (fa_nil))))) (by decide +kernel)
/-- X2_readCondition -/
def q55c : aCt := (15, [aR [45], aI 4 4, aI 0 0], [], [(some (aI 0 0), [(lLo, lHi), (lLo, lHi), (lLo, lHi)], []), (some (aI 1 1), [(lLo, lHi), (lLo, lHi), (lLo, lHi)], [])], [(1, 2, 4), (45, 2, 3), (46, 0, 240)])
set_option maxRecDepth 100000 in
theorem q55 : vC tS tR jT 17 q55c := chkF_ok (D := 16) (hst := jTs) (T := [q54c, q6c, q7c, q16c]) (N := [(13, [(0, aR [45]), (1, aI 4 4), (2, aI 0 0), (3, aI 0 240)], [], 0, [(3, 1, 240, true)])]) (sp := []) (fu := 29) (fa_cons (vUp q54 (by decide)) (fa_cons (vUp q6 (by decide)) (fa_cons (vUp q7 (by decide)) (fa_cons (vUp q16 (by decide)) (fa_nil))))) (by decide +kernel)
/-- X2_readNested -/
def q56c : aCt := (18, [aR [45], aI 3 3, aIt], [(1, 2, 0, 239)], [(some (aI 1 1), [(lLo, lHi), (3, 3), (iLo, iHi)], []), (some (aI 0 0), [(lLo, lHi), (3, 3), (iLo, iHi)], [])], [(1, 2, 4), (45, 2, 3), (46, 0, 240)])
set_option maxRecDepth 100000 in
theorem q56 : vC tS tR jT 18 q56c := chkF_ok (D := 17) (hst := jTs) (T := [q7c, q53c, q16c, q55c, q47c]) (N := []) (sp := []) (fu := 31) (fa_cons (vUp q7 (by decide)) (fa_cons (vUp q53 (by decide)) (fa_cons (vUp q16 (by decide)) (fa_cons (vUp q55 (by decide)) (fa_cons (vUp q47 (by decide)) (fa_nil)))))) (by decide +kernel)
/-- X2_readUnit -/
def q57c : aCt := (17, [aR [45], aI 3 3, aI 0 0], [], [(some (aI 0 0), [(lLo, lHi), (3, 3), (0, 0)], []), (some (aI 1 1), [(lLo, lHi), (3, 3), (0, 0)], [])], [(1, 2, 4), (45, 2, 3), (46, 0, 240)])
set_option maxRecDepth 100000 in
theorem q57 : vC tS tR jT 19 q57c := chkF_ok (D := 18) (hst := jTs) (T := [q6c, q30c, q40c, q9c, q41c, q7c, q16c, q56c]) (N := []) (sp := []) (fu := 43) (fa_cons (vUp q6 (by decide)) (fa_cons (vUp q30 (by decide)) (fa_cons (vUp q40 (by decide)) (fa_cons (vUp q9 (by decide)) (fa_cons (vUp q41 (by decide)) (fa_cons (vUp q7 (by decide)) (fa_cons (vUp q16 (by decide)) (fa_cons (vUp q56 (by decide)) (fa_nil))))))))) (by decide +kernel)
/-- X2_readTruth -/
def q58c : aCt := (16, [aR [45], aI 3 3, aI 0 0], [], [(some (aI 0 0), [(lLo, lHi), (lLo, lHi), (lLo, lHi)], []), (some (aI 1 1), [(lLo, lHi), (lLo, lHi), (lLo, lHi)], [])], [(1, 2, 4), (45, 2, 3), (46, 0, 240)])
set_option maxRecDepth 100000 in
theorem q58 : vC tS tR jT 20 q58c := chkF_ok (D := 19) (hst := jTs) (T := [q57c, q6c, q7c, q16c]) (N := [(13, [(0, aR [45]), (1, aI 3 3), (2, aI 0 0), (3, aI 0 240)], [], 0, [(3, 1, 240, true)])]) (sp := []) (fu := 29) (fa_cons (vUp q57 (by decide)) (fa_cons (vUp q6 (by decide)) (fa_cons (vUp q7 (by decide)) (fa_cons (vUp q16 (by decide)) (fa_nil))))) (by decide +kernel)
/-- X2_readCondition -/
def q59c : aCt := (15, [aR [45], aI 3 3, aI 0 0], [], [(some (aI 0 0), [(lLo, lHi), (lLo, lHi), (lLo, lHi)], []), (some (aI 1 1), [(lLo, lHi), (lLo, lHi), (lLo, lHi)], [])], [(1, 2, 4), (45, 2, 3), (46, 0, 240)])
set_option maxRecDepth 100000 in
theorem q59 : vC tS tR jT 21 q59c := chkF_ok (D := 20) (hst := jTs) (T := [q58c, q6c, q7c, q16c]) (N := [(13, [(0, aR [45]), (1, aI 3 3), (2, aI 0 0), (3, aI 0 240)], [], 0, [(3, 1, 240, true)])]) (sp := []) (fu := 29) (fa_cons (vUp q58 (by decide)) (fa_cons (vUp q6 (by decide)) (fa_cons (vUp q7 (by decide)) (fa_cons (vUp q16 (by decide)) (fa_nil))))) (by decide +kernel)
/-- X2_readNested -/
def q60c : aCt := (18, [aR [45], aI 2 2, aIt], [(1, 2, 0, 239)], [(some (aI 1 1), [(lLo, lHi), (2, 2), (iLo, iHi)], []), (some (aI 0 0), [(lLo, lHi), (2, 2), (iLo, iHi)], [])], [(1, 2, 4), (45, 2, 3), (46, 0, 240)])
set_option maxRecDepth 100000 in
theorem q60 : vC tS tR jT 22 q60c := chkF_ok (D := 21) (hst := jTs) (T := [q7c, q57c, q16c, q59c, q47c]) (N := []) (sp := []) (fu := 31) (fa_cons (vUp q7 (by decide)) (fa_cons (vUp q57 (by decide)) (fa_cons (vUp q16 (by decide)) (fa_cons (vUp q59 (by decide)) (fa_cons (vUp q47 (by decide)) (fa_nil)))))) (by decide +kernel)
/-- X2_readUnit -/
def q61c : aCt := (17, [aR [45], aI 2 2, aI 0 0], [], [(some (aI 0 0), [(lLo, lHi), (2, 2), (0, 0)], []), (some (aI 1 1), [(lLo, lHi), (2, 2), (0, 0)], [])], [(1, 2, 4), (45, 2, 3), (46, 0, 240)])
set_option maxRecDepth 100000 in
theorem q61 : vC tS tR jT 23 q61c := chkF_ok (D := 22) (hst := jTs) (T := [q6c, q33c, q40c, q9c, q41c, q7c, q16c, q60c]) (N := []) (sp := []) (fu := 43) (fa_cons (vUp q6 (by decide)) (fa_cons (vUp q33 (by decide)) (fa_cons (vUp q40 (by decide)) (fa_cons (vUp q9 (by decide)) (fa_cons (vUp q41 (by decide)) (fa_cons (vUp q7 (by decide)) (fa_cons (vUp q16 (by decide)) (fa_cons (vUp q60 (by decide)) (fa_nil))))))))) (by decide +kernel)
/-- X2_readTruth -/
def q62c : aCt := (16, [aR [45], aI 2 2, aI 0 0], [], [(some (aI 0 0), [(lLo, lHi), (lLo, lHi), (lLo, lHi)], []), (some (aI 1 1), [(lLo, lHi), (lLo, lHi), (lLo, lHi)], [])], [(1, 2, 4), (45, 2, 3), (46, 0, 240)])
set_option maxRecDepth 100000 in
theorem q62 : vC tS tR jT 24 q62c := chkF_ok (D := 23) (hst := jTs) (T := [q61c, q6c, q7c, q16c]) (N := [(13, [(0, aR [45]), (1, aI 2 2), (2, aI 0 0), (3, aI 0 240)], [], 0, [(3, 1, 240, true)])]) (sp := []) (fu := 29) (fa_cons (vUp q61 (by decide)) (fa_cons (vUp q6 (by decide)) (fa_cons (vUp q7 (by decide)) (fa_cons (vUp q16 (by decide)) (fa_nil))))) (by decide +kernel)
/-- X2_readCondition -/
def q63c : aCt := (15, [aR [45], aI 2 2, aI 0 0], [], [(some (aI 0 0), [(lLo, lHi), (lLo, lHi), (lLo, lHi)], []), (some (aI 1 1), [(lLo, lHi), (lLo, lHi), (lLo, lHi)], [])], [(1, 2, 4), (45, 2, 3), (46, 0, 240)])
set_option maxRecDepth 100000 in
theorem q63 : vC tS tR jT 25 q63c := chkF_ok (D := 24) (hst := jTs) (T := [q62c, q6c, q7c, q16c]) (N := [(13, [(0, aR [45]), (1, aI 2 2), (2, aI 0 0), (3, aI 0 240)], [], 0, [(3, 1, 240, true)])]) (sp := []) (fu := 29) (fa_cons (vUp q62 (by decide)) (fa_cons (vUp q6 (by decide)) (fa_cons (vUp q7 (by decide)) (fa_cons (vUp q16 (by decide)) (fa_nil))))) (by decide +kernel)
/-- X2_readNested -/
def q64c : aCt := (18, [aR [45], aI 1 1, aIt], [(1, 2, 0, 239)], [(some (aI 1 1), [(lLo, lHi), (1, 1), (iLo, iHi)], []), (some (aI 0 0), [(lLo, lHi), (1, 1), (iLo, iHi)], [])], [(1, 2, 4), (45, 2, 3), (46, 0, 240)])
set_option maxRecDepth 100000 in
theorem q64 : vC tS tR jT 26 q64c := chkF_ok (D := 25) (hst := jTs) (T := [q7c, q61c, q16c, q63c, q47c]) (N := []) (sp := []) (fu := 31) (fa_cons (vUp q7 (by decide)) (fa_cons (vUp q61 (by decide)) (fa_cons (vUp q16 (by decide)) (fa_cons (vUp q63 (by decide)) (fa_cons (vUp q47 (by decide)) (fa_nil)))))) (by decide +kernel)
/-- X2_readUnit -/
def q65c : aCt := (17, [aR [45], aI 1 1, aI 0 0], [], [(some (aI 0 0), [(lLo, lHi), (1, 1), (0, 0)], []), (some (aI 1 1), [(lLo, lHi), (1, 1), (0, 0)], [])], [(1, 2, 4), (45, 2, 3), (46, 0, 240)])
set_option maxRecDepth 100000 in
theorem q65 : vC tS tR jT 27 q65c := chkF_ok (D := 26) (hst := jTs) (T := [q6c, q36c, q40c, q9c, q41c, q7c, q16c, q64c]) (N := []) (sp := []) (fu := 43) (fa_cons (vUp q6 (by decide)) (fa_cons (vUp q36 (by decide)) (fa_cons (vUp q40 (by decide)) (fa_cons (vUp q9 (by decide)) (fa_cons (vUp q41 (by decide)) (fa_cons (vUp q7 (by decide)) (fa_cons (vUp q16 (by decide)) (fa_cons (vUp q64 (by decide)) (fa_nil))))))))) (by decide +kernel)
/-- X2_readTruth -/
def q66c : aCt := (16, [aR [45], aI 1 1, aI 0 0], [], [(some (aI 0 0), [(lLo, lHi), (lLo, lHi), (lLo, lHi)], []), (some (aI 1 1), [(lLo, lHi), (lLo, lHi), (lLo, lHi)], [])], [(1, 2, 4), (45, 2, 3), (46, 0, 240)])
set_option maxRecDepth 100000 in
theorem q66 : vC tS tR jT 28 q66c := chkF_ok (D := 27) (hst := jTs) (T := [q65c, q6c, q7c, q16c]) (N := [(13, [(0, aR [45]), (1, aI 1 1), (2, aI 0 0), (3, aI 0 240)], [], 0, [(3, 1, 240, true)])]) (sp := []) (fu := 29) (fa_cons (vUp q65 (by decide)) (fa_cons (vUp q6 (by decide)) (fa_cons (vUp q7 (by decide)) (fa_cons (vUp q16 (by decide)) (fa_nil))))) (by decide +kernel)
/-- X2_readCondition -/
def q67c : aCt := (15, [aR [45], aI 1 1, aI 0 0], [], [(some (aI 0 0), [(lLo, lHi), (lLo, lHi), (lLo, lHi)], []), (some (aI 1 1), [(lLo, lHi), (lLo, lHi), (lLo, lHi)], [])], [(1, 2, 4), (45, 2, 3), (46, 0, 240)])
set_option maxRecDepth 100000 in
theorem q67 : vC tS tR jT 29 q67c := chkF_ok (D := 28) (hst := jTs) (T := [q66c, q6c, q7c, q16c]) (N := [(13, [(0, aR [45]), (1, aI 1 1), (2, aI 0 0), (3, aI 0 240)], [], 0, [(3, 1, 240, true)])]) (sp := []) (fu := 29) (fa_cons (vUp q66 (by decide)) (fa_cons (vUp q6 (by decide)) (fa_cons (vUp q7 (by decide)) (fa_cons (vUp q16 (by decide)) (fa_nil))))) (by decide +kernel)
/-- X2_readNested -/
def q68c : aCt := (18, [aR [45], aI 0 0, aIt], [(1, 2, 0, 239)], [(some (aI 1 1), [(lLo, lHi), (0, 0), (iLo, iHi)], []), (some (aI 0 0), [(lLo, lHi), (0, 0), (iLo, iHi)], [])], [(1, 2, 4), (45, 2, 3), (46, 0, 240)])
set_option maxRecDepth 100000 in
theorem q68 : vC tS tR jT 30 q68c := chkF_ok (D := 29) (hst := jTs) (T := [q7c, q65c, q16c, q67c, q47c]) (N := []) (sp := []) (fu := 31) (fa_cons (vUp q7 (by decide)) (fa_cons (vUp q65 (by decide)) (fa_cons (vUp q16 (by decide)) (fa_cons (vUp q67 (by decide)) (fa_cons (vUp q47 (by decide)) (fa_nil)))))) (by decide +kernel)
/-- X2_readUnit -/
def q69c : aCt := (17, [aR [45], aI 0 0, aI 0 0], [], [(some (aI 0 0), [(lLo, lHi), (0, 0), (0, 0)], []), (some (aI 1 1), [(lLo, lHi), (0, 0), (0, 0)], [])], [(1, 2, 4), (45, 2, 3), (46, 0, 240)])
set_option maxRecDepth 100000 in
theorem q69 : vC tS tR jT 31 q69c := chkF_ok (D := 30) (hst := jTs) (T := [q6c, q39c, q40c, q9c, q41c, q7c, q16c, q68c]) (N := []) (sp := []) (fu := 43) (fa_cons (vUp q6 (by decide)) (fa_cons (vUp q39 (by decide)) (fa_cons (vUp q40 (by decide)) (fa_cons (vUp q9 (by decide)) (fa_cons (vUp q41 (by decide)) (fa_cons (vUp q7 (by decide)) (fa_cons (vUp q16 (by decide)) (fa_cons (vUp q68 (by decide)) (fa_nil))))))))) (by decide +kernel)
/-- X2_readTruth -/
def q70c : aCt := (16, [aR [45], aI 0 0, aI 1 1], [], [(some (aI 0 0), [(lLo, lHi), (lLo, lHi), (lLo, lHi)], []), (some (aI 1 1), [(lLo, lHi), (lLo, lHi), (lLo, lHi)], [])], [(1, 2, 4), (45, 2, 3), (46, 0, 240)])
set_option maxRecDepth 100000 in
theorem q70 : vC tS tR jT 32 q70c := chkF_ok (D := 31) (hst := jTs) (T := [q42c, q6c, q7c, q69c, q16c]) (N := [(13, [(0, aR [45]), (1, aI 0 0), (2, aI 1 1), (3, aI 0 240)], [], 0, [(3, 1, 240, true)])]) (sp := []) (fu := 29) (fa_cons (vUp q42 (by decide)) (fa_cons (vUp q6 (by decide)) (fa_cons (vUp q7 (by decide)) (fa_cons (vUp q69 (by decide)) (fa_cons (vUp q16 (by decide)) (fa_nil)))))) (by decide +kernel)
/-- X2_readTruth -/
def q71c : aCt := (16, [aR [45], aI 0 0, aI 0 0], [], [(some (aI 0 0), [(lLo, lHi), (lLo, lHi), (lLo, lHi)], []), (some (aI 1 1), [(lLo, lHi), (lLo, lHi), (lLo, lHi)], [])], [(1, 2, 4), (45, 2, 3), (46, 0, 240)])
set_option maxRecDepth 100000 in
theorem q71 : vC tS tR jT 32 q71c := chkF_ok (D := 31) (hst := jTs) (T := [q69c, q6c, q7c, q16c]) (N := [(13, [(0, aR [45]), (1, aI 0 0), (2, aI 0 0), (3, aI 0 240)], [], 0, [(3, 1, 240, true)])]) (sp := []) (fu := 29) (fa_cons (vUp q69 (by decide)) (fa_cons (vUp q6 (by decide)) (fa_cons (vUp q7 (by decide)) (fa_cons (vUp q16 (by decide)) (fa_nil))))) (by decide +kernel)
/-- X2_readCondition -/
def q72c : aCt := (15, [aR [45], aI 0 0, aI 1 1], [], [(some (aI 0 0), [(lLo, lHi), (lLo, lHi), (lLo, lHi)], []), (some (aI 1 1), [(lLo, lHi), (lLo, lHi), (lLo, lHi)], [])], [(1, 2, 4), (45, 2, 3), (46, 0, 240)])
set_option maxRecDepth 100000 in
theorem q72 : vC tS tR jT 33 q72c := chkF_ok (D := 32) (hst := jTs) (T := [q70c, q6c, q7c, q71c, q16c]) (N := [(13, [(0, aR [45]), (1, aI 0 0), (2, aI 1 1), (3, aI 0 240)], [], 0, [(3, 1, 240, true)])]) (sp := []) (fu := 29) (fa_cons (vUp q70 (by decide)) (fa_cons (vUp q6 (by decide)) (fa_cons (vUp q7 (by decide)) (fa_cons (vUp q71 (by decide)) (fa_cons (vUp q16 (by decide)) (fa_nil)))))) (by decide +kernel)
/-- X8_take -/
def q73c : aCt := (75, [aR [1], aI 63 63], [], [(some (aI 0 0), [(lLo, lHi), (63, 63)], []), (some (aI 1 1), [(lLo, lHi), (63, 63)], [(1, 2, 1, 240)])], [(1, 2, 4)])
set_option maxRecDepth 100000 in
theorem q73 : vC tS tR jT 3 q73c := chkF_ok (D := 2) (hst := jTs) (T := [q6c, q9c, q7c]) (N := []) (sp := []) (fu := 15) (fa_cons (vUp q6 (by decide)) (fa_cons (vUp q9 (by decide)) (fa_cons (vUp q7 (by decide)) (fa_nil)))) (by decide +kernel)
/-- X2_readCondition -/
def q74c : aCt := (15, [aR [45], aI 0 0, aI 0 0], [], [(some (aI 0 0), [(lLo, lHi), (lLo, lHi), (lLo, lHi)], []), (some (aI 1 1), [(lLo, lHi), (lLo, lHi), (lLo, lHi)], [])], [(1, 2, 4), (45, 2, 3), (46, 0, 240)])
set_option maxRecDepth 100000 in
theorem q74 : vC tS tR jT 33 q74c := chkF_ok (D := 32) (hst := jTs) (T := [q71c, q6c, q7c, q16c]) (N := [(13, [(0, aR [45]), (1, aI 0 0), (2, aI 0 0), (3, aI 0 240)], [], 0, [(3, 1, 240, true)])]) (sp := []) (fu := 29) (fa_cons (vUp q71 (by decide)) (fa_cons (vUp q6 (by decide)) (fa_cons (vUp q7 (by decide)) (fa_cons (vUp q16 (by decide)) (fa_nil))))) (by decide +kernel)
/-- X2_readClause -/
def q75c : aCt := (14, [aR [45]], [], [(some (aI 1 1), [(lLo, lHi)], []), (some (aI 0 0), [(lLo, lHi)], [])], [(1, 2, 4), (45, 2, 3), (46, 0, 240)])
set_option maxRecDepth 100000 in
theorem q75 : vC tS tR jT 34 q75c := chkF_ok (D := 33) (hst := jTs) (T := [q10c, q11c, q6c, q39c, q40c, q16c, q41c, q72c, q73c, q74c]) (N := []) (sp := []) (fu := 65) (fa_cons (vUp q10 (by decide)) (fa_cons (vUp q11 (by decide)) (fa_cons (vUp q6 (by decide)) (fa_cons (vUp q39 (by decide)) (fa_cons (vUp q40 (by decide)) (fa_cons (vUp q16 (by decide)) (fa_cons (vUp q41 (by decide)) (fa_cons (vUp q72 (by decide)) (fa_cons (vUp q73 (by decide)) (fa_cons (vUp q74 (by decide)) (fa_nil))))))))))) (by decide +kernel)
/-- X8_take -/
def q76c : aCt := (75, [aR [1], aI 59 59], [], [(some (aI 0 0), [(lLo, lHi), (59, 59)], []), (some (aI 1 1), [(lLo, lHi), (59, 59)], [(1, 2, 1, 240)])], [(1, 2, 4)])
set_option maxRecDepth 100000 in
theorem q76 : vC tS tR jT 3 q76c := chkF_ok (D := 2) (hst := jTs) (T := [q6c, q9c, q7c]) (N := []) (sp := []) (fu := 15) (fa_cons (vUp q6 (by decide)) (fa_cons (vUp q9 (by decide)) (fa_cons (vUp q7 (by decide)) (fa_nil)))) (by decide +kernel)
/-- X2_readLaw -/
def q77c : aCt := (13, [aR [45]], [], [(some (aI (-1) 240), [(lLo, lHi)], []), (some (aI (-1) (-1)), [(lLo, lHi)], [])], [(1, 2, 4), (45, 2, 3), (46, 0, 240)])
set_option maxRecDepth 100000 in
theorem q77 : vC tS tR jT 35 q77c := chkF_ok (D := 34) (hst := jTs) (T := [q4c, q75c, q6c, q76c]) (N := [(14, [(0, aR [45]), (1, aI 0 241)], [], 0, [(1, 1, 241, true)])]) (sp := []) (fu := 27) (fa_cons (vUp q4 (by decide)) (fa_cons (vUp q75 (by decide)) (fa_cons (vUp q6 (by decide)) (fa_cons (vUp q76 (by decide)) (fa_nil))))) (by decide +kernel)
/-- X5_begin -/
def q78c : aCt := (42, [aR [24]], [], [(none, [(lLo, lHi)], [])], [(24, 0, 4), (25, 0, 2)])
set_option maxRecDepth 100000 in
theorem q78 : vC tS tR jT 1 q78c := chkF_ok (D := 0) (hst := jTs) (T := []) (N := []) (sp := []) (fu := 27) (fa_nil) (by decide +kernel)
/-- X5_placeOf -/
def q79c : aCt := (45, [aR [1014], aI 60 255], [], [(some (aI (-1) (-1)), [(lLo, lHi), (lLo, lHi)], []), (some (aI 0 1), [(lLo, lHi), (lLo, lHi)], [])], [])
set_option maxRecDepth 100000 in
theorem q79 : vC tS tR jT 1 q79c := chkF_ok (D := 0) (hst := jTs) (T := []) (N := [(2, [(0, aR [1014]), (1, aI 60 255), (2, aI 0 2)], [], 0, [(2, 1, 2, true)])]) (sp := []) (fu := 19) (fa_nil) (by decide +kernel)
/-- X5_placeOf -/
def q80c : aCt := (45, [aR [1014], aI 0 58], [], [(some (aI (-1) (-1)), [(lLo, lHi), (lLo, lHi)], [])], [])
set_option maxRecDepth 100000 in
theorem q80 : vC tS tR jT 1 q80c := chkF_ok (D := 0) (hst := jTs) (T := []) (N := [(2, [(0, aR [1014]), (1, aI 0 58), (2, aI 0 2)], [], 0, [(2, 1, 2, true)])]) (sp := []) (fu := 19) (fa_nil) (by decide +kernel)
