/-! L2: contracts of the class -/
/-- X11_lit -/
def q270c : aCt := (153, [aR [0]], [], [(some (aI 0 255), [(lLo, lHi)], [])], [])
set_option maxRecDepth 100000 in
theorem q270 : vC tS tR jT 1 q270c := chkF_ok (D := 0) (hst := jTs) (T := []) (N := [(4, [(0, aR [0]), (1, aI 0 255), (2, aI 0 8)], [], 0, [(2, 1, 8, true)])]) (sp := []) (fu := 27) (fa_nil) (by decide +kernel)
/-- X5_lengthOf -/
def q271c : aCt := (57, [aR [3], aIt], [], [(some (aIt), [(lLo, lHi), (lLo, lHi)], [])], [])
set_option maxRecDepth 100000 in
theorem q271 : vC tS tR jT 2 q271c := chkF_ok (D := 1) (hst := jTs) (T := [q115c]) (N := [(4, [(0, aR [3]), (1, aIt), (2, aIt), (3, aI 0 12)], [], 0, [(3, 1, 12, true)])]) (sp := []) (fu := 26) (fa_cons (vUp q115 (by decide)) (fa_nil)) (by decide +kernel)
/-- J9_max_7cf53 -/
def q272c : aCt := (267, [aI 0 0, aI (-1) (-1)], [], [(some (aI 0 0), [(0, 0), ((-1), (-1))], [])], [])
set_option maxRecDepth 100000 in
theorem q272 : vC tS tR jT 1 q272c := chkF_ok (D := 0) (hst := jTs) (T := []) (N := []) (sp := []) (fu := 13) (fa_nil) (by decide +kernel)
/-- J9_max_7cf53 -/
def q273c : aCt := (267, [aI 0 iHi, aIt], [], [(some (aI 0 iHi), [(0, iHi), (iLo, iHi)], [])], [])
set_option maxRecDepth 100000 in
theorem q273 : vC tS tR jT 1 q273c := chkF_ok (D := 0) (hst := jTs) (T := []) (N := []) (sp := []) (fu := 13) (fa_nil) (by decide +kernel)
/-- J9_max_7cf53 -/
def q274c : aCt := (267, [aI 0 iHi, aI (-1) (-1)], [], [(some (aI 0 iHi), [(0, iHi), ((-1), (-1))], [])], [])
set_option maxRecDepth 100000 in
theorem q274 : vC tS tR jT 1 q274c := chkF_ok (D := 0) (hst := jTs) (T := []) (N := []) (sp := []) (fu := 13) (fa_nil) (by decide +kernel)
/-- X10_farthestFrom -/
def q275c : aCt := (86, [aR [63], aI 0 7], [], [(some (aI 0 iHi), [(lLo, lHi), (lLo, lHi)], [])], [])
set_option maxRecDepth 100000 in
theorem q275 : vC tS tR jT 2 q275c := chkF_ok (D := 1) (hst := jTs) (T := [q173c, q273c, q274c]) (N := [(4, [(0, aR [63]), (1, aI 0 7), (2, aI 0 iHi), (3, aI 0 8)], [], 0, [(3, 1, 8, true)])]) (sp := []) (fu := 21) (fa_cons (vUp q173 (by decide)) (fa_cons (vUp q273 (by decide)) (fa_cons (vUp q274 (by decide)) (fa_nil)))) (by decide +kernel)
/-- X11_byFarthest -/
def q276c : aCt := (152, [aR [0], aIt, aIt], [], [(some (aI 0 7), [(lLo, lHi), (lLo, lHi), (lLo, lHi)], [])], [(63, 3, 4), (65, 0, 8), (66, 0, 8), (67, 0, 8), (68, 0, 8), (69, 0, 8), (70, 0, 8), (71, 0, 8), (72, 0, 8), (74, 0, 8), (75, 0, 8), (76, 0, 8), (77, 0, 8), (78, 0, 8), (79, 0, 8), (80, 0, 8), (81, 0, 8)])
set_option maxRecDepth 100000 in
theorem q276 : vC tS tR jT 3 q276c := chkF_ok (D := 2) (hst := jTs) (T := [q170c, q275c]) (N := [(20, [(0, aR [0]), (1, aIt), (2, aIt), (3, aI 0 7), (4, aIt), (5, aI 0 8)], [], 0, [(5, 1, 8, true)])]) (sp := []) (fu := 31) (fa_cons (vUp q170 (by decide)) (fa_cons (vUp q275 (by decide)) (fa_nil))) (by decide +kernel)
/-- X11_faithful -/
def q277c : aCt := (150, [aR [0]], [], [(some (aI 0 3), [(lLo, lHi)], [])], [])
set_option maxRecDepth 100000 in
theorem q277 : vC tS tR jT 1 q277c := chkF_ok (D := 0) (hst := jTs) (T := []) (N := [(4, [(0, aR [0]), (1, aI 0 3), (2, aI 1 4)], [], 0, [(2, 1, 4, true)])]) (sp := []) (fu := 28) (fa_nil) (by decide +kernel)
/-- X11_byStreets -/
def q278c : aCt := (151, [aR [0], aIt, aIt], [], [(some (aI 0 7), [(lLo, lHi), (lLo, lHi), (lLo, lHi)], [])], [])
set_option maxRecDepth 100000 in
theorem q278 : vC tS tR jT 2 q278c := chkF_ok (D := 1) (hst := jTs) (T := [q112c]) (N := [(8, [(0, aR [0]), (1, aIt), (2, aIt), (3, aI 0 7), (4, aIt), (5, aI 0 8)], [], 0, [(5, 1, 8, true)])]) (sp := []) (fu := 35) (fa_cons (vUp q112 (by decide)) (fa_nil)) (by decide +kernel)
/-- X11_deepest -/
def q279c : aCt := (149, [aR [0]], [], [(some (aI 0 7), [(lLo, lHi)], [])], [])
set_option maxRecDepth 100000 in
theorem q279 : vC tS tR jT 1 q279c := chkF_ok (D := 0) (hst := jTs) (T := []) (N := [(4, [(0, aR [0]), (1, aI 0 7), (2, aI 1 8)], [], 0, [(2, 1, 8, true)])]) (sp := []) (fu := 28) (fa_nil) (by decide +kernel)
/-- X5_partsBy -/
def q280c : aCt := (56, [aR [3], aIt], [], [(some (aIt), [(lLo, lHi), (lLo, lHi)], [])], [])
set_option maxRecDepth 100000 in
theorem q280 : vC tS tR jT 3 q280c := chkF_ok (D := 2) (hst := jTs) (T := [q230c]) (N := [(7, [(0, aR [3]), (1, aIt), (2, aIt), (3, aIt), (4, aI 0 8)], [], 0, [(4, 1, 8, true)])]) (sp := []) (fu := 28) (fa_cons (vUp q230 (by decide)) (fa_nil)) (by decide +kernel)
/-- X5_bridgesAmong -/
def q281c : aCt := (55, [aR [3], aIt], [], [(some (aI 0 4095), [(lLo, lHi), (lLo, lHi)], [])], [])
set_option maxRecDepth 100000 in
theorem q281 : vC tS tR jT 3 q281c := chkF_ok (D := 2) (hst := jTs) (T := [q117c, q230c, q116c]) (N := [(4, [(0, aR [3]), (1, aIt), (2, aI 0 4095), (3, aI 0 12)], [], 0, [(3, 1, 12, true)])]) (sp := []) (fu := 43) (fa_cons (vUp q117 (by decide)) (fa_cons (vUp q230 (by decide)) (fa_cons (vUp q116 (by decide)) (fa_nil)))) (by decide +kernel)
/-- X11_all -/
def q282c : aCt := (148, [aR [0], aIt], [], [(some (aI (-1) (-1)), [(lLo, lHi), (iLo, iHi)], []), (some (aIt), [(lLo, lHi), (0, 11)], [])], [(63, 3, 4), (65, 0, 8), (66, 0, 8), (67, 0, 8), (68, 0, 8), (69, 0, 8), (70, 0, 8), (71, 0, 8), (72, 0, 8), (74, 0, 8), (75, 0, 8), (76, 0, 8), (77, 0, 8), (78, 0, 8), (79, 0, 8), (80, 0, 8), (81, 0, 8)])
set_option maxRecDepth 100000 in
theorem q282 : vC tS tR jT 4 q282c := chkF_ok (D := 3) (hst := jTs) (T := [q124c, q111c, q167c, q270c, q271c, q276c, q277c, q278c, q279c, q112c, q280c, q281c]) (N := []) (sp := []) (fu := 27) (fa_cons (vUp q124 (by decide)) (fa_cons (vUp q111 (by decide)) (fa_cons (vUp q167 (by decide)) (fa_cons (vUp q270 (by decide)) (fa_cons (vUp q271 (by decide)) (fa_cons (vUp q276 (by decide)) (fa_cons (vUp q277 (by decide)) (fa_cons (vUp q278 (by decide)) (fa_cons (vUp q279 (by decide)) (fa_cons (vUp q112 (by decide)) (fa_cons (vUp q280 (by decide)) (fa_cons (vUp q281 (by decide)) (fa_nil))))))))))))) (by decide +kernel)
