/-! L2: contracts of the class -/
/-- X6_become -/
def q216c : aCt := (60, [aR [305], aR [89]], [], [(none, [(lLo, lHi), (lLo, lHi)], [])], [(305, 0, 3), (306, 0, 8), (307, 0, 8), (308, 0, 4), (309, 0, 4)])
set_option maxRecDepth 100000 in
theorem q216 : vC tS tR jT 1 q216c := chkF_ok (D := 0) (hst := jTs) (T := []) (N := []) (sp := []) (fu := 52) (fa_nil) (by decide +kernel)
/-- X4_become -/
def q217c : aCt := (38, [aR [310], aR [301]], [], [(none, [(lLo, lHi), (lLo, lHi)], [])], [(311, 0, 100), (312, 0, 100), (313, 0, 100)])
set_option maxRecDepth 100000 in
theorem q217 : vC tS tR jT 1 q217c := chkF_ok (D := 0) (hst := jTs) (T := []) (N := []) (sp := []) (fu := 32) (fa_nil) (by decide +kernel)
/-- X11_image -/
def q218c : aCt := (126, [aR [0]], [], [(some (aI (-1) (-1)), [(lLo, lHi)], []), (some (aIt), [(lLo, lHi)], [])], [(0, 15, 16), (305, 0, 3), (306, 0, 8), (307, 0, 8), (308, 0, 4), (309, 0, 4), (311, 0, 100), (312, 0, 100), (313, 0, 100)])
set_option maxRecDepth 100000 in
theorem q218 : vC tS tR jT 2 q218c := chkF_ok (D := 1) (hst := jTs) (T := [q124c, q216c, q217c]) (N := []) (sp := []) (fu := 27) (fa_cons (vUp q124 (by decide)) (fa_cons (vUp q216 (by decide)) (fa_cons (vUp q217 (by decide)) (fa_nil)))) (by decide +kernel)
/-- X6_become -/
def q219c : aCt := (60, [aR [89], aR [305]], [], [(none, [(lLo, lHi), (lLo, lHi)], [])], [(89, 0, 3), (90, 0, 8), (91, 0, 8), (92, 0, 4), (93, 0, 4)])
set_option maxRecDepth 100000 in
theorem q219 : vC tS tR jT 1 q219c := chkF_ok (D := 0) (hst := jTs) (T := []) (N := []) (sp := []) (fu := 52) (fa_nil) (by decide +kernel)
/-- X4_become -/
def q220c : aCt := (38, [aR [301], aR [310]], [], [(none, [(lLo, lHi), (lLo, lHi)], [])], [(302, 0, 100), (303, 0, 100), (304, 0, 100)])
set_option maxRecDepth 100000 in
theorem q220 : vC tS tR jT 1 q220c := chkF_ok (D := 0) (hst := jTs) (T := []) (N := []) (sp := []) (fu := 32) (fa_nil) (by decide +kernel)
/-- X11_back -/
def q221c : aCt := (127, [aR [0]], [], [(some (aIt), [(lLo, lHi)], []), (some (aI (-1) (-1)), [(lLo, lHi)], [])], [(89, 0, 3), (90, 0, 8), (91, 0, 8), (92, 0, 4), (93, 0, 4), (99, 2, 3), (302, 0, 100), (303, 0, 100), (304, 0, 100)])
set_option maxRecDepth 100000 in
theorem q221 : vC tS tR jT 2 q221c := chkF_ok (D := 1) (hst := jTs) (T := [q219c, q220c, q106c]) (N := []) (sp := []) (fu := 27) (fa_cons (vUp q219 (by decide)) (fa_cons (vUp q220 (by decide)) (fa_cons (vUp q106 (by decide)) (fa_nil)))) (by decide +kernel)
/-- X11_walk -/
def q222c : aCt := (128, [aR [0], aIt, aIt], [], [(some (aI (-1) (-1)), [(lLo, lHi), (iLo, iHi), (iLo, iHi)], []), (some (aIt), [(lLo, lHi), (0, 3), ((-1), 15)], [])], [])
set_option maxRecDepth 100000 in
theorem q222 : vC tS tR jT 1 q222c := chkF_ok (D := 0) (hst := jTs) (T := []) (N := []) (sp := []) (fu := 34) (fa_nil) (by decide +kernel)
/-- X10_isMeasured -/
def q223c : aCt := (83, [aR [63], aIt], [], [(some (aI 0 0), [(lLo, lHi), (iLo, iHi)], []), (some (aI 1 1), [(lLo, lHi), (0, 7)], [])], [])
set_option maxRecDepth 100000 in
theorem q223 : vC tS tR jT 1 q223c := chkF_ok (D := 0) (hst := jTs) (T := []) (N := []) (sp := []) (fu := 16) (fa_nil) (by decide +kernel)
/-- X10_stepYards -/
def q224c : aCt := (84, [aR [63], aIt, aIt], [], [(some (aIt), [(lLo, lHi), (0, 7), (0, 7)], []), (some (aI (-1) (-1)), [(lLo, lHi), (iLo, iHi), (iLo, iHi)], [])], [])
set_option maxRecDepth 100000 in
theorem q224 : vC tS tR jT 2 q224c := chkF_ok (D := 1) (hst := jTs) (T := [q223c]) (N := []) (sp := []) (fu := 23) (fa_cons (vUp q223 (by decide)) (fa_nil)) (by decide +kernel)
/-- X11_check -/
def q225c : aCt := (129, [aR [0], aIt, aIt], [], [(some (aI (-1000000) (-1000000)), [(lLo, lHi), (iLo, iHi), (iLo, iHi)], []), (some (aIt), [(lLo, lHi), (lLo, lHi), (lLo, lHi)], []), (some (aI (-1) (-1)), [(lLo, lHi), (lLo, lHi), (lLo, lHi)], [])], [(63, 3, 4), (65, 0, 8), (66, 0, 8), (67, 0, 8), (68, 0, 8), (69, 0, 8), (70, 0, 8), (71, 0, 8), (72, 0, 8), (74, 0, 8), (75, 0, 8), (76, 0, 8), (77, 0, 8), (78, 0, 8), (79, 0, 8), (80, 0, 8), (81, 0, 8), (83, 3, 4)])
set_option maxRecDepth 100000 in
theorem q225 : vC tS tR jT 4 q225c := chkF_ok (D := 3) (hst := jTs) (T := [q124c, q171c, q224c, q109c]) (N := [(67, [(0, aR [0]), (1, aI 0 3), (2, aI 0 2), (3, aI 0 16), (4, aIt), (5, aIt), (6, aI 0 255), (7, aI 0 16)], [(55, 4, 1, 4)], 0, [(7, 1, 16, true)])]) (sp := []) (fu := 55) (fa_cons (vUp q124 (by decide)) (fa_cons (vUp q171 (by decide)) (fa_cons (vUp q224 (by decide)) (fa_cons (vUp q109 (by decide)) (fa_nil))))) (by decide +kernel)
/-- X11_far -/
def q226c : aCt := (130, [aR [0], aIt, aIt], [], [(some (aIt), [(lLo, lHi), (0, 7), (0, 7)], []), (some (aI (-1) (-1)), [(lLo, lHi), (iLo, iHi), (iLo, iHi)], [])], [(63, 3, 4), (65, 0, 8), (66, 0, 8), (67, 0, 8), (68, 0, 8), (69, 0, 8), (70, 0, 8), (71, 0, 8), (72, 0, 8), (74, 0, 8), (75, 0, 8), (76, 0, 8), (77, 0, 8), (78, 0, 8), (79, 0, 8), (80, 0, 8), (81, 0, 8)])
set_option maxRecDepth 100000 in
theorem q226 : vC tS tR jT 3 q226c := chkF_ok (D := 2) (hst := jTs) (T := [q109c, q111c, q170c, q173c]) (N := []) (sp := []) (fu := 28) (fa_cons (vUp q109 (by decide)) (fa_cons (vUp q111 (by decide)) (fa_cons (vUp q170 (by decide)) (fa_cons (vUp q173 (by decide)) (fa_nil))))) (by decide +kernel)
/-- X10_nextTowards -/
def q227c : aCt := (88, [aR [63], aI 0 7, aI 0 7], [], [(some (aI 0 7), [(lLo, lHi), (lLo, lHi), (lLo, lHi)], [])], [])
set_option maxRecDepth 100000 in
theorem q227 : vC tS tR jT 1 q227c := chkF_ok (D := 0) (hst := jTs) (T := []) (N := [(2, [(0, aR [63]), (1, aI 0 7), (2, aI 0 7), (3, aI 0 8)], [], 0, [(3, 1, 8, true)])]) (sp := []) (fu := 46) (fa_nil) (by decide +kernel)
/-- X10_leastRow -/
def q228c : aCt := (87, [aR [63], aI 0 7, aI 0 7], [], [(some (aI (-1) (-1)), [(lLo, lHi), (0, 7), (0, 7)], []), (some (aIt), [(lLo, lHi), (lLo, lHi), (lLo, lHi)], [])], [])
set_option maxRecDepth 100000 in
theorem q228 : vC tS tR jT 2 q228c := chkF_ok (D := 1) (hst := jTs) (T := [q227c]) (N := [(23, [(0, aR [63]), (1, aI 0 7), (2, aI 0 7), (3, aIt), (4, aI 0 7), (5, aI 1 8)], [], 0, [(5, 1, 8, true)])]) (sp := []) (fu := 28) (fa_cons (vUp q227 (by decide)) (fa_nil)) (by decide +kernel)
/-- X11_way -/
def q229c : aCt := (131, [aR [0], aIt, aIt], [], [(some (aIt), [(lLo, lHi), (0, 7), (0, 7)], []), (some (aI (-1) (-1)), [(lLo, lHi), (iLo, iHi), (iLo, iHi)], [])], [(63, 3, 4), (65, 0, 8), (66, 0, 8), (67, 0, 8), (68, 0, 8), (69, 0, 8), (70, 0, 8), (71, 0, 8), (72, 0, 8), (74, 0, 8), (75, 0, 8), (76, 0, 8), (77, 0, 8), (78, 0, 8), (79, 0, 8), (80, 0, 8), (81, 0, 8)])
set_option maxRecDepth 100000 in
theorem q229 : vC tS tR jT 3 q229c := chkF_ok (D := 2) (hst := jTs) (T := [q109c, q111c, q170c, q228c]) (N := []) (sp := []) (fu := 28) (fa_cons (vUp q109 (by decide)) (fa_cons (vUp q111 (by decide)) (fa_cons (vUp q170 (by decide)) (fa_cons (vUp q228 (by decide)) (fa_nil))))) (by decide +kernel)
/-- X5_reachedFrom -/
def q230c : aCt := (54, [aR [3], aIt, aIt], [], [(some (aIt), [(lLo, lHi), (lLo, lHi), (lLo, lHi)], [])], [])
set_option maxRecDepth 100000 in
theorem q230 : vC tS tR jT 2 q230c := chkF_ok (D := 1) (hst := jTs) (T := [q117c, q116c]) (N := [(7, [(0, aR [3]), (1, aIt), (2, aIt), (3, aIt), (4, aI 1 8)], [], 13, [(4, 14, 8, true)]),
  (22, [(0, aR [3]), (1, aIt), (2, aIt), (3, aIt), (4, aI 1 7), (5, aIt), (6, aI 0 12)], [(3, 0, 2, 8)], 0, [(4, 14, 8, true), (6, 1, 12, true)])]) (sp := []) (fu := 40) (fa_cons (vUp q117 (by decide)) (fa_cons (vUp q116 (by decide)) (fa_nil))) (by decide +kernel)
/-- X10_feastOf -/
def q231c : aCt := (92, [aR [63], aI 0 7, aI 0 255], [], [(some (aIt), [(lLo, lHi), (0, 7), (0, 255)], [])], [])
set_option maxRecDepth 100000 in
theorem q231 : vC tS tR jT 1 q231c := chkF_ok (D := 0) (hst := jTs) (T := []) (N := []) (sp := []) (fu := 16) (fa_nil) (by decide +kernel)
/-- J9_min_7cf53 -/
def q232c : aCt := (269, [aI 1000000 1000000, aIt], [], [(some (aI iLo 1000000), [(1000000, 1000000), (iLo, iHi)], [])], [])
set_option maxRecDepth 100000 in
theorem q232 : vC tS tR jT 1 q232c := chkF_ok (D := 0) (hst := jTs) (T := []) (N := []) (sp := []) (fu := 13) (fa_nil) (by decide +kernel)
/-- X10_yardsByNext -/
def q233c : aCt := (91, [aR [63], aI 0 7, aI 0 255, aI 0 7], [], [(some (aI iLo 1000000), [(lLo, lHi), (0, 7), (0, 255), (0, 7)], [])], [])
set_option maxRecDepth 100000 in
theorem q233 : vC tS tR jT 2 q233c := chkF_ok (D := 1) (hst := jTs) (T := [q173c, q231c, q232c]) (N := []) (sp := []) (fu := 30) (fa_cons (vUp q173 (by decide)) (fa_cons (vUp q231 (by decide)) (fa_cons (vUp q232 (by decide)) (fa_nil)))) (by decide +kernel)
/-- J9_min_7cf53 -/
def q234c : aCt := (269, [aI 1000000 1000000, aI iLo 1000000], [], [(some (aI iLo 1000000), [(1000000, 1000000), (iLo, 1000000)], [])], [])
set_option maxRecDepth 100000 in
theorem q234 : vC tS tR jT 1 q234c := chkF_ok (D := 0) (hst := jTs) (T := []) (N := []) (sp := []) (fu := 13) (fa_nil) (by decide +kernel)
/-- J9_min_7cf53 -/
def q235c : aCt := (269, [aI iLo 1000000, aI iLo 1000000], [], [(some (aI iLo 1000000), [(iLo, 1000000), (iLo, 1000000)], [])], [])
set_option maxRecDepth 100000 in
theorem q235 : vC tS tR jT 1 q235c := chkF_ok (D := 0) (hst := jTs) (T := []) (N := []) (sp := []) (fu := 13) (fa_nil) (by decide +kernel)
/-- X10_fewestYards -/
def q236c : aCt := (90, [aR [63], aI 0 7, aI 0 255], [], [(some (aI iLo 1000000), [(lLo, lHi), (lLo, lHi), (lLo, lHi)], [])], [])
set_option maxRecDepth 100000 in
theorem q236 : vC tS tR jT 3 q236c := chkF_ok (D := 2) (hst := jTs) (T := [q233c, q235c]) (N := [(6, [(0, aR [63]), (1, aI 0 7), (2, aI 0 255), (3, aI iLo 1000000), (4, aI 0 8)], [], 0, [(4, 1, 8, true)])]) (sp := []) (fu := 28) (fa_cons (vUp q233 (by decide)) (fa_cons (vUp q235 (by decide)) (fa_nil))) (by decide +kernel)
/-- X10_planFeast -/
def q237c : aCt := (89, [aR [63], aI 0 255], [], [(none, [(lLo, lHi), (lLo, lHi)], [])], [(82, 0, 2048)])
set_option maxRecDepth 100000 in
theorem q237 : vC tS tR jT 4 q237c := chkF_ok (D := 3) (hst := jTs) (T := [q236c]) (N := [(2, [(0, aR [63]), (1, aI 0 255), (2, aI 0 256)], [], 9, [(2, 10, 256, true)]),
  (19, [(0, aR [63]), (1, aI 0 255), (2, aI 0 255), (3, aI 0 8)], [], 0, [(2, 10, 256, true), (3, 1, 8, true)])]) (sp := []) (fu := 28) (fa_cons (vUp q236 (by decide)) (fa_nil)) (by decide +kernel)
/-- X10_feastRow -/
def q238c : aCt := (94, [aR [63], aI 0 7, aI 0 255], [], [(some (aIt), [(lLo, lHi), (lLo, lHi), (lLo, lHi)], [])], [])
set_option maxRecDepth 100000 in
theorem q238 : vC tS tR jT 3 q238c := chkF_ok (D := 2) (hst := jTs) (T := [q233c, q231c]) (N := [(29, [(0, aR [63]), (1, aI 0 7), (2, aI 0 255), (3, aIt), (4, aI 0 255), (5, aI 0 7), (6, aI 0 8)], [], 8, [(6, 9, 8, true)]),
  (46, [(0, aR [63]), (1, aI 0 7), (2, aI 0 255), (3, aIt), (4, aI 1 255), (5, aI 0 7), (6, aI 0 7), (7, aI 0 7)], [(63, 3, 1, 8)], 0, [(6, 9, 8, true), (7, 1, 7, true)])]) (sp := []) (fu := 48) (fa_cons (vUp q233 (by decide)) (fa_cons (vUp q231 (by decide)) (fa_nil))) (by decide +kernel)
/-- X10_feastYards -/
def q239c : aCt := (93, [aR [63], aI 0 7, aI 0 255], [], [(some (aIt), [(lLo, lHi), (0, 7), (0, 255)], [])], [])
set_option maxRecDepth 100000 in
theorem q239 : vC tS tR jT 2 q239c := chkF_ok (D := 1) (hst := jTs) (T := [q231c]) (N := []) (sp := []) (fu := 18) (fa_cons (vUp q231 (by decide)) (fa_nil)) (by decide +kernel)
/-- X11_feast -/
def q240c : aCt := (132, [aR [0], aIt, aIt], [], [(some (aI (-1) (-1)), [(lLo, lHi), (iLo, iHi), (iLo, iHi)], []), (some (aIt), [(lLo, lHi), (0, 7), (0, 1)], []), (some (aI 0 0), [(lLo, lHi), (0, 7), (0, 0)], [])], [(63, 3, 4), (65, 0, 8), (66, 0, 8), (67, 0, 8), (68, 0, 8), (69, 0, 8), (70, 0, 8), (71, 0, 8), (72, 0, 8), (74, 0, 8), (75, 0, 8), (76, 0, 8), (77, 0, 8), (78, 0, 8), (79, 0, 8), (80, 0, 8), (81, 0, 8), (82, 0, 2048), (83, 3, 4)])
set_option maxRecDepth 100000 in
theorem q240 : vC tS tR jT 5 q240c := chkF_ok (D := 4) (hst := jTs) (T := [q109c, q171c, q111c, q230c, q237c, q238c, q239c]) (N := []) (sp := []) (fu := 51) (fa_cons (vUp q109 (by decide)) (fa_cons (vUp q171 (by decide)) (fa_cons (vUp q111 (by decide)) (fa_cons (vUp q230 (by decide)) (fa_cons (vUp q237 (by decide)) (fa_cons (vUp q238 (by decide)) (fa_cons (vUp q239 (by decide)) (fa_nil)))))))) (by decide +kernel)
/-- X11_around -/
def q241c : aCt := (133, [aR [0], aIt, aIt], [], [(some (aI (-1) (-1)), [(lLo, lHi), (iLo, iHi), (iLo, iHi)], []), (some (aI 0 255), [(lLo, lHi), (lLo, lHi), (lLo, lHi)], [])], [(63, 3, 4), (65, 0, 8), (66, 0, 8), (67, 0, 8), (68, 0, 8), (69, 0, 8), (70, 0, 8), (71, 0, 8), (72, 0, 8), (74, 0, 8), (75, 0, 8), (76, 0, 8), (77, 0, 8), (78, 0, 8), (79, 0, 8), (80, 0, 8), (81, 0, 8)])
set_option maxRecDepth 100000 in
theorem q241 : vC tS tR jT 3 q241c := chkF_ok (D := 2) (hst := jTs) (T := [q109c, q111c, q170c, q173c]) (N := [(40, [(0, aR [0]), (1, aI 0 7), (2, aI 0 99), (3, aI 0 255), (4, aI 0 8)], [], 0, [(4, 1, 8, true)])]) (sp := []) (fu := 33) (fa_cons (vUp q109 (by decide)) (fa_cons (vUp q111 (by decide)) (fa_cons (vUp q170 (by decide)) (fa_cons (vUp q173 (by decide)) (fa_nil))))) (by decide +kernel)
/-- X6_become -/
def q242c : aCt := (60, [aR [94], aR [89]], [], [(none, [(lLo, lHi), (lLo, lHi)], [])], [(94, 0, 3), (95, 0, 8), (96, 0, 8), (97, 0, 4), (98, 0, 4)])
set_option maxRecDepth 100000 in
theorem q242 : vC tS tR jT 1 q242c := chkF_ok (D := 0) (hst := jTs) (T := []) (N := []) (sp := []) (fu := 52) (fa_nil) (by decide +kernel)
