/-! L2: contracts of the class -/
/-- X1_lookAt -/
def q243c : aCt := (5, [aR [83], aR [94]], [], [(none, [(lLo, lHi), (lLo, lHi)], [])], [(63, 3, 4), (65, 0, 8), (66, 0, 8), (67, 0, 8), (68, 0, 8), (69, 0, 8), (70, 0, 8), (71, 0, 8), (72, 0, 8), (74, 0, 8), (75, 0, 8), (76, 0, 8), (77, 0, 8), (78, 0, 8), (79, 0, 8), (80, 0, 8), (81, 0, 8), (83, 3, 4)])
set_option maxRecDepth 100000 in
theorem q243 : vC tS tR jT 3 q243c := chkF_ok (D := 2) (hst := jTs) (T := [q110c, q167c, q170c]) (N := []) (sp := []) (fu := 26) (fa_cons (vUp q110 (by decide)) (fa_cons (vUp q167 (by decide)) (fa_cons (vUp q170 (by decide)) (fa_nil)))) (by decide +kernel)
/-- X1_canCome -/
def q244c : aCt := (6, [aR [83], aR [94], aI 0 3, aI 0 7], [], [(some (aI 1 1), [(lLo, lHi), (lLo, lHi), (0, 3), (0, 7)], []), (some (aI 0 0), [(lLo, lHi), (lLo, lHi), (0, 3), (0, 7)], [])], [])
set_option maxRecDepth 100000 in
theorem q244 : vC tS tR jT 2 q244c := chkF_ok (D := 1) (hst := jTs) (T := [q173c]) (N := []) (sp := []) (fu := 27) (fa_cons (vUp q173 (by decide)) (fa_nil)) (by decide +kernel)
/-- X1_pullOn -/
def q245c : aCt := (7, [aR [83], aR [94], aI 0 3, aI 0 7], [], [(some (aI (-1000000) (-1000000)), [(lLo, lHi), (lLo, lHi), (0, 3), (0, 7)], []), (some (aIt), [(lLo, lHi), (lLo, lHi), (0, 3), (0, 7)], []), (some (aI 0 0), [(lLo, lHi), (lLo, lHi), (0, 3), (0, 7)], [])], [(47, 3, 4), (47, 6, 12), (54, 0, 64)])
set_option maxRecDepth 100000 in
theorem q245 : vC tS tR jT 4 q245c := chkF_ok (D := 3) (hst := jTs) (T := [q244c, q173c, q112c, q175c, q176c, q185c, q186c, q187c, q188c, q189c]) (N := []) (sp := []) (fu := 61) (fa_cons (vUp q244 (by decide)) (fa_cons (vUp q173 (by decide)) (fa_cons (vUp q112 (by decide)) (fa_cons (vUp q175 (by decide)) (fa_cons (vUp q176 (by decide)) (fa_cons (vUp q185 (by decide)) (fa_cons (vUp q186 (by decide)) (fa_cons (vUp q187 (by decide)) (fa_cons (vUp q188 (by decide)) (fa_cons (vUp q189 (by decide)) (fa_nil))))))))))) (by decide +kernel)
/-- X1_goalOf -/
def q246c : aCt := (8, [aR [83], aR [94], aI 0 3], [], [(some (aI (-1) 7), [(lLo, lHi), (lLo, lHi), (lLo, lHi)], [])], [(47, 3, 4), (47, 6, 12), (54, 0, 64)])
set_option maxRecDepth 100000 in
theorem q246 : vC tS tR jT 5 q246c := chkF_ok (D := 4) (hst := jTs) (T := [q245c]) (N := [(9, [(0, aR [83]), (1, aR [94]), (2, aI 0 3), (3, aI (-1) 7), (4, aI (-1000000) iHi), (5, aI 0 8)], [], 0, [(5, 1, 8, true)])]) (sp := []) (fu := 28) (fa_cons (vUp q245 (by decide)) (fa_nil)) (by decide +kernel)
/-- X1_passDay -/
def q247c : aCt := (9, [aR [83], aR [94]], [], [(none, [(lLo, lHi), (lLo, lHi)], [])], [(47, 3, 4), (47, 6, 12), (54, 0, 64), (83, 4, 7), (94, 1, 3), (95, 0, 8), (98, 0, 4)])
set_option maxRecDepth 100000 in
theorem q247 : vC tS tR jT 6 q247c := chkF_ok (D := 5) (hst := jTs) (T := [q172c, q246c, q192c]) (N := [(17, [(0, aR [83]), (1, aR [94]), (2, aI 0 4)], [(83, 4, 0, 255), (83, 5, 0, 15)], 0, [(2, 1, 4, true)])]) (sp := []) (fu := 49) (fa_cons (vUp q172 (by decide)) (fa_cons (vUp q246 (by decide)) (fa_cons (vUp q192 (by decide)) (fa_nil)))) (by decide +kernel)
/-- X11_soon -/
def q248c : aCt := (134, [aR [0], aIt], [], [(some (aI (-1) (-1)), [(lLo, lHi), (lLo, lHi)], []), (some (aI 1 60), [(lLo, lHi), (lLo, lHi)], [])], [(47, 3, 4), (47, 6, 12), (54, 0, 64), (63, 3, 4), (65, 0, 8), (66, 0, 8), (67, 0, 8), (68, 0, 8), (69, 0, 8), (70, 0, 8), (71, 0, 8), (72, 0, 8), (74, 0, 8), (75, 0, 8), (76, 0, 8), (77, 0, 8), (78, 0, 8), (79, 0, 8), (80, 0, 8), (81, 0, 8), (83, 3, 7), (94, 0, 3), (95, 0, 8), (96, 0, 8), (97, 0, 4), (98, 0, 4)])
set_option maxRecDepth 100000 in
theorem q248 : vC tS tR jT 7 q248c := chkF_ok (D := 6) (hst := jTs) (T := [q200c, q242c, q243c, q247c]) (N := [(34, [(0, aR [0]), (1, aI 0 3), (2, aI 1 61)], [], 0, [(2, 1, 61, true)])]) (sp := []) (fu := 26) (fa_cons (vUp q200 (by decide)) (fa_cons (vUp q242 (by decide)) (fa_cons (vUp q243 (by decide)) (fa_cons (vUp q247 (by decide)) (fa_nil))))) (by decide +kernel)
/-- X11_worn -/
def q249c : aCt := (135, [aR [0], aIt, aIt], [], [(some (aI (-1) (-1)), [(lLo, lHi), (lLo, lHi), (lLo, lHi)], []), (some (aI 0 60), [(lLo, lHi), (lLo, lHi), (lLo, lHi)], [])], [(47, 3, 4), (47, 6, 12), (54, 0, 64), (63, 3, 4), (65, 0, 8), (66, 0, 8), (67, 0, 8), (68, 0, 8), (69, 0, 8), (70, 0, 8), (71, 0, 8), (72, 0, 8), (74, 0, 8), (75, 0, 8), (76, 0, 8), (77, 0, 8), (78, 0, 8), (79, 0, 8), (80, 0, 8), (81, 0, 8), (83, 3, 7), (94, 0, 3), (95, 0, 8), (96, 0, 8), (97, 0, 4), (98, 0, 4)])
set_option maxRecDepth 100000 in
theorem q249 : vC tS tR jT 7 q249c := chkF_ok (D := 6) (hst := jTs) (T := [q109c, q242c, q243c, q247c]) (N := [(46, [(0, aR [0]), (1, aI 0 7), (2, aI 1 999), (3, aI 0 61)], [], 0, [(3, 1, 61, true)])]) (sp := []) (fu := 30) (fa_cons (vUp q109 (by decide)) (fa_cons (vUp q242 (by decide)) (fa_cons (vUp q243 (by decide)) (fa_cons (vUp q247 (by decide)) (fa_nil))))) (by decide +kernel)
/-- X7_add -/
def q250c : aCt := (62, [aR [84], aIt, aI 0 1], [], [(some (aI (-1) (-1)), [(lLo, lHi), (iLo, iHi), (0, 1)], []), (some (aI 1 10), [(lLo, lHi), (iLo, iHi), (0, 1)], [])], [(84, 4, 5), (85, 0, 10), (86, 0, 10)])
set_option maxRecDepth 100000 in
theorem q250 : vC tS tR jT 1 q250c := chkF_ok (D := 0) (hst := jTs) (T := []) (N := []) (sp := []) (fu := 32) (fa_nil) (by decide +kernel)
/-- X11_seen -/
def q251c : aCt := (136, [aR [0], aIt, aI 0 1], [], [(some (aI 1 10), [(lLo, lHi), (0, 7), (0, 1)], []), (some (aI (-1) (-1)), [(lLo, lHi), (iLo, iHi), (0, 1)], [])], [(84, 4, 5), (85, 0, 10), (86, 0, 10)])
set_option maxRecDepth 100000 in
theorem q251 : vC tS tR jT 2 q251c := chkF_ok (D := 1) (hst := jTs) (T := [q109c, q250c]) (N := []) (sp := []) (fu := 17) (fa_cons (vUp q109 (by decide)) (fa_cons (vUp q250 (by decide)) (fa_nil))) (by decide +kernel)
/-- X7_gatherIfFits -/
def q252c : aCt := (64, [aR [84], aIt, aIt], [], [(none, [(lLo, lHi), (lLo, lHi), (lLo, lHi)], [])], [(84, 5, 6), (87, 0, 13), (88, 0, 13)])
set_option maxRecDepth 100000 in
theorem q252 : vC tS tR jT 1 q252c := chkF_ok (D := 0) (hst := jTs) (T := []) (N := [(2, [(0, aR [84]), (1, aIt), (2, aIt), (3, aI 0 10)], [], 0, [(3, 1, 10, true)])]) (sp := []) (fu := 34) (fa_nil) (by decide +kernel)
/-- X7_gather -/
def q253c : aCt := (63, [aR [84], aR [3], aIt], [], [(some (aI 0 13), [(lLo, lHi), (lLo, lHi), (lLo, lHi)], [])], [(84, 5, 6), (87, 0, 13), (88, 0, 13)])
set_option maxRecDepth 100000 in
theorem q253 : vC tS tR jT 3 q253c := chkF_ok (D := 2) (hst := jTs) (T := [q110c, q167c, q252c]) (N := [(14, [(0, aR [84]), (1, aR [3]), (2, aIt), (3, aI 0 4095), (4, aI 0 12)], [], 0, [(4, 1, 12, true)])]) (sp := []) (fu := 30) (fa_cons (vUp q110 (by decide)) (fa_cons (vUp q167 (by decide)) (fa_cons (vUp q252 (by decide)) (fa_nil)))) (by decide +kernel)
/-- X11_knocked -/
def q254c : aCt := (137, [aR [0], aIt], [], [(some (aI (-1) (-1)), [(lLo, lHi), (iLo, iHi)], []), (some (aIt), [(lLo, lHi), ((-1), 12)], [])], [(84, 5, 6), (87, 0, 13), (88, 0, 13)])
set_option maxRecDepth 100000 in
theorem q254 : vC tS tR jT 4 q254c := chkF_ok (D := 3) (hst := jTs) (T := [q124c, q253c]) (N := []) (sp := []) (fu := 33) (fa_cons (vUp q124 (by decide)) (fa_cons (vUp q253 (by decide)) (fa_nil))) (by decide +kernel)
/-- J9_abs_0f7a4 -/
def q255c : aCt := (266, [aIt], [], [(some (aIt), [(iLo, iHi)], [])], [])
set_option maxRecDepth 100000 in
theorem q255 : vC tS tR jT 1 q255c := chkF_ok (D := 0) (hst := jTs) (T := []) (N := []) (sp := []) (fu := 13) (fa_nil) (by decide +kernel)
/-- X7_apartBy -/
def q256c : aCt := (65, [aR [84], aIt], [], [(some (aIt), [(lLo, lHi), (lLo, lHi)], [])], [])
set_option maxRecDepth 100000 in
theorem q256 : vC tS tR jT 2 q256c := chkF_ok (D := 1) (hst := jTs) (T := [q255c]) (N := [(4, [(0, aR [84]), (1, aIt), (2, aIt), (3, aI 0 13)], [], 0, [(3, 1, 13, true)])]) (sp := []) (fu := 25) (fa_cons (vUp q255 (by decide)) (fa_nil)) (by decide +kernel)
/-- X11_ask -/
def q257c : aCt := (138, [aR [0]], [], [(some (aI (-1) (-1)), [(lLo, lHi)], []), (some (aI (-1) 7), [(lLo, lHi)], [])], [(84, 5, 6), (87, 0, 13), (88, 0, 13)])
set_option maxRecDepth 100000 in
theorem q257 : vC tS tR jT 4 q257c := chkF_ok (D := 3) (hst := jTs) (T := [q124c, q253c, q256c]) (N := [(36, [(0, aR [0]), (1, aI (-1) 7), (2, aIt), (3, aI 0 8)], [], 0, [(3, 1, 8, true)])]) (sp := []) (fu := 30) (fa_cons (vUp q124 (by decide)) (fa_cons (vUp q253 (by decide)) (fa_cons (vUp q256 (by decide)) (fa_nil)))) (by decide +kernel)
/-- X11_walls -/
def q258c : aCt := (139, [aR [0], aIt], [], [(some (aI (-1) (-1)), [(lLo, lHi), (iLo, iHi)], []), (some (aI (-1) 4095), [(lLo, lHi), (lLo, lHi)], [])], [])
set_option maxRecDepth 100000 in
theorem q258 : vC tS tR jT 3 q258c := chkF_ok (D := 2) (hst := jTs) (T := [q111c, q112c, q167c]) (N := [(34, [(0, aR [0]), (1, aI 1 255), (2, aI 0 4095), (3, aI (-1) 4095), (4, aI 0 63), (5, aI 0 4096)], [], 0, [(5, 1, 4096, true)])]) (sp := []) (fu := 45) (fa_cons (vUp q111 (by decide)) (fa_cons (vUp q112 (by decide)) (fa_cons (vUp q167 (by decide)) (fa_nil)))) (by decide +kernel)
/-- X11_parted -/
def q259c : aCt := (140, [aR [0], aIt, aIt], [], [(some (aI (-1) (-1)), [(lLo, lHi), (iLo, iHi), (iLo, iHi)], []), (some (aI (-1) 4095), [(lLo, lHi), (lLo, lHi), (lLo, lHi)], [])], [])
set_option maxRecDepth 100000 in
theorem q259 : vC tS tR jT 3 q259c := chkF_ok (D := 2) (hst := jTs) (T := [q109c, q111c, q112c, q230c]) (N := [(38, [(0, aR [0]), (1, aI 0 7), (2, aI 0 7), (3, aI 0 4095), (4, aI (-1) 4095), (5, aI 0 63), (6, aI 0 4096)], [], 0, [(6, 1, 4096, true)])]) (sp := []) (fu := 46) (fa_cons (vUp q109 (by decide)) (fa_cons (vUp q111 (by decide)) (fa_cons (vUp q112 (by decide)) (fa_cons (vUp q230 (by decide)) (fa_nil))))) (by decide +kernel)
/-- X11_draws -/
def q260c : aCt := (141, [aR [0], aIt, aIt], [], [(some (aI 0 0), [(lLo, lHi), (0, 3), (0, 7)], []), (some (aIt), [(lLo, lHi), (0, 3), (0, 7)], []), (some (aI (-1000000) (-1000000)), [(lLo, lHi), (iLo, iHi), (iLo, iHi)], [])], [(47, 3, 4), (47, 6, 12), (54, 0, 64), (63, 3, 4), (65, 0, 8), (66, 0, 8), (67, 0, 8), (68, 0, 8), (69, 0, 8), (70, 0, 8), (71, 0, 8), (72, 0, 8), (74, 0, 8), (75, 0, 8), (76, 0, 8), (77, 0, 8), (78, 0, 8), (79, 0, 8), (80, 0, 8), (81, 0, 8), (83, 3, 4)])
set_option maxRecDepth 100000 in
theorem q260 : vC tS tR jT 5 q260c := chkF_ok (D := 4) (hst := jTs) (T := [q200c, q109c, q171c, q190c]) (N := []) (sp := []) (fu := 28) (fa_cons (vUp q200 (by decide)) (fa_cons (vUp q109 (by decide)) (fa_cons (vUp q171 (by decide)) (fa_cons (vUp q190 (by decide)) (fa_nil))))) (by decide +kernel)
/-- X11_goes -/
def q261c : aCt := (142, [aR [0], aIt], [], [(some (aI (-1) 7), [(lLo, lHi), (0, 3)], []), (some (aI (-1) (-1)), [(lLo, lHi), (iLo, iHi)], [])], [(47, 3, 4), (47, 6, 12), (54, 0, 64), (63, 3, 4), (65, 0, 8), (66, 0, 8), (67, 0, 8), (68, 0, 8), (69, 0, 8), (70, 0, 8), (71, 0, 8), (72, 0, 8), (74, 0, 8), (75, 0, 8), (76, 0, 8), (77, 0, 8), (78, 0, 8), (79, 0, 8), (80, 0, 8), (81, 0, 8), (83, 3, 4)])
set_option maxRecDepth 100000 in
theorem q261 : vC tS tR jT 6 q261c := chkF_ok (D := 5) (hst := jTs) (T := [q200c, q171c, q191c]) (N := []) (sp := []) (fu := 23) (fa_cons (vUp q200 (by decide)) (fa_cons (vUp q171 (by decide)) (fa_cons (vUp q191 (by decide)) (fa_nil)))) (by decide +kernel)
/-- X11_goers -/
def q262c : aCt := (143, [aR [0], aIt], [], [(some (aI (-1) (-1)), [(lLo, lHi), (iLo, iHi)], []), (some (aI 0 15), [(lLo, lHi), (lLo, lHi)], [])], [(47, 3, 4), (47, 6, 12), (54, 0, 64), (63, 3, 4), (65, 0, 8), (66, 0, 8), (67, 0, 8), (68, 0, 8), (69, 0, 8), (70, 0, 8), (71, 0, 8), (72, 0, 8), (74, 0, 8), (75, 0, 8), (76, 0, 8), (77, 0, 8), (78, 0, 8), (79, 0, 8), (80, 0, 8), (81, 0, 8), (83, 3, 4)])
set_option maxRecDepth 100000 in
theorem q262 : vC tS tR jT 6 q262c := chkF_ok (D := 5) (hst := jTs) (T := [q109c, q171c, q191c]) (N := [(25, [(0, aR [0]), (1, aI 0 7), (2, aI 0 15), (3, aI 0 4)], [], 0, [(3, 1, 4, true)])]) (sp := []) (fu := 29) (fa_cons (vUp q109 (by decide)) (fa_cons (vUp q171 (by decide)) (fa_cons (vUp q191 (by decide)) (fa_nil)))) (by decide +kernel)
/-- X11_areTwoWalkers -/
def q263c : aCt := (111, [aR [0], aIt, aIt], [], [(some (aI 1 1), [(lLo, lHi), (0, 3), (0, 3)], []), (some (aI 0 0), [(lLo, lHi), (iLo, iHi), (iLo, iHi)], [])], [])
set_option maxRecDepth 100000 in
theorem q263 : vC tS tR jT 2 q263c := chkF_ok (D := 1) (hst := jTs) (T := [q200c]) (N := []) (sp := []) (fu := 21) (fa_cons (vUp q200 (by decide)) (fa_nil)) (by decide +kernel)
/-- X1_hasAt -/
def q264c : aCt := (10, [aR [83], aR [89], aI 0 3, aI 0 7, aIt], [], [(some (aIt), [(lLo, lHi), (lLo, lHi), (0, 3), (0, 7), (iLo, iHi)], []), (some (aI 0 0), [(lLo, lHi), (lLo, lHi), (0, 3), (0, 7), (iLo, iHi)], [])], [(47, 3, 4), (47, 6, 12), (54, 0, 64)])
set_option maxRecDepth 100000 in
theorem q264 : vC tS tR jT 5 q264c := chkF_ok (D := 4) (hst := jTs) (T := [q190c]) (N := []) (sp := []) (fu := 31) (fa_cons (vUp q190 (by decide)) (fa_nil)) (by decide +kernel)
/-- X11_game -/
def q265c : aCt := (144, [aR [0], aIt, aIt, aIt, aIt, aIt], [], [(some (aI (-1000000) (-1000000)), [(lLo, lHi), (iLo, iHi), (iLo, iHi), (iLo, iHi), (iLo, iHi), (iLo, iHi)], []), (some (aI 0 0), [(lLo, lHi), (0, 3), (0, 3), (0, 7), (0, 7), (0, 1)], []), (some (aIt), [(lLo, lHi), (0, 3), (0, 3), (0, 7), (0, 7), (0, 1)], [])], [(47, 3, 4), (47, 6, 12), (54, 0, 64), (63, 3, 4), (65, 0, 8), (66, 0, 8), (67, 0, 8), (68, 0, 8), (69, 0, 8), (70, 0, 8), (71, 0, 8), (72, 0, 8), (74, 0, 8), (75, 0, 8), (76, 0, 8), (77, 0, 8), (78, 0, 8), (79, 0, 8), (80, 0, 8), (81, 0, 8), (83, 3, 4)])
set_option maxRecDepth 100000 in
theorem q265 : vC tS tR jT 6 q265c := chkF_ok (D := 5) (hst := jTs) (T := [q263c, q171c, q264c]) (N := []) (sp := []) (fu := 44) (fa_cons (vUp q263 (by decide)) (fa_cons (vUp q171 (by decide)) (fa_cons (vUp q264 (by decide)) (fa_nil)))) (by decide +kernel)
/-- X1_stays -/
def q266c : aCt := (11, [aR [83], aR [89], aI 0 3, aI 0 7, aIt], [], [(some (aI 1 1), [(lLo, lHi), (lLo, lHi), (lLo, lHi), (lLo, lHi), (lLo, lHi)], []), (some (aI 0 0), [(lLo, lHi), (lLo, lHi), (lLo, lHi), (lLo, lHi), (lLo, lHi)], [])], [(47, 3, 4), (47, 6, 12), (54, 0, 64)])
set_option maxRecDepth 100000 in
theorem q266 : vC tS tR jT 6 q266c := chkF_ok (D := 5) (hst := jTs) (T := [q264c]) (N := [(14, [(0, aR [83]), (1, aR [89]), (2, aI 0 3), (3, aI 0 7), (4, aIt), (5, aIt), (6, aI 0 8)], [], 0, [(6, 1, 8, true)])]) (sp := []) (fu := 23) (fa_cons (vUp q264 (by decide)) (fa_nil)) (by decide +kernel)
/-- X11_rests -/
def q267c : aCt := (145, [aR [0], aIt, aIt, aIt], [], [(some (aI (-1) (-1)), [(lLo, lHi), (lLo, lHi), (lLo, lHi), (lLo, lHi)], []), (some (aIt), [(lLo, lHi), (lLo, lHi), (lLo, lHi), (lLo, lHi)], [])], [(47, 3, 4), (47, 6, 12), (54, 0, 64), (63, 3, 4), (65, 0, 8), (66, 0, 8), (67, 0, 8), (68, 0, 8), (69, 0, 8), (70, 0, 8), (71, 0, 8), (72, 0, 8), (74, 0, 8), (75, 0, 8), (76, 0, 8), (77, 0, 8), (78, 0, 8), (79, 0, 8), (80, 0, 8), (81, 0, 8), (83, 3, 4)])
set_option maxRecDepth 100000 in
theorem q267 : vC tS tR jT 7 q267c := chkF_ok (D := 6) (hst := jTs) (T := [q263c, q171c, q266c]) (N := [(33, [(0, aR [0]), (1, aI 0 3), (2, aI 0 3), (3, aI (-1) iHi), (4, aIt), (5, aI 0 8)], [], 9, [(5, 10, 8, true)]),
  (48, [(0, aR [0]), (1, aI 0 3), (2, aI 0 3), (3, aI (-1) iHi), (4, aIt), (5, aI 0 7), (6, aI 0 8)], [(3, 0, 1, 8)], 0, [(5, 10, 8, true), (6, 1, 8, true)])]) (sp := []) (fu := 39) (fa_cons (vUp q263 (by decide)) (fa_cons (vUp q171 (by decide)) (fa_cons (vUp q266 (by decide)) (fa_nil)))) (by decide +kernel)
/-- X11_odds -/
def q268c : aCt := (146, [aR [0], aIt, aIt], [], [(some (aI (-1) (-1)), [(lLo, lHi), (iLo, iHi), (iLo, iHi)], []), (some (aIt), [(lLo, lHi), (lLo, lHi), (lLo, lHi)], [])], [(63, 3, 4), (65, 0, 8), (66, 0, 8), (67, 0, 8), (68, 0, 8), (69, 0, 8), (70, 0, 8), (71, 0, 8), (72, 0, 8), (74, 0, 8), (75, 0, 8), (76, 0, 8), (77, 0, 8), (78, 0, 8), (79, 0, 8), (80, 0, 8), (81, 0, 8), (83, 3, 4)])
set_option maxRecDepth 100000 in
theorem q268 : vC tS tR jT 4 q268c := chkF_ok (D := 3) (hst := jTs) (T := [q200c, q171c, q174c]) (N := [(38, [(0, aR [0]), (1, aI 0 3), (2, aI 0 100), (3, aLt), (5, aI 0 8)], [], 0, [(5, 1, 8, true)])]) (sp := []) (fu := 30) (fa_cons (vUp q200 (by decide)) (fa_cons (vUp q171 (by decide)) (fa_cons (vUp q174 (by decide)) (fa_nil)))) (by decide +kernel)
/-- X11_shares -/
def q269c : aCt := (147, [aR [0], aIt, aIt], [], [(some (aI (-1) (-1)), [(lLo, lHi), (iLo, iHi), (iLo, iHi)], []), (some (aIt), [(lLo, lHi), (lLo, lHi), (lLo, lHi)], []), (some (aI 0 0), [(lLo, lHi), (lLo, lHi), (lLo, lHi)], [])], [])
set_option maxRecDepth 100000 in
theorem q269 : vC tS tR jT 2 q269c := chkF_ok (D := 1) (hst := jTs) (T := [q109c]) (N := [(26, [(0, aR [0]), (1, aI 0 7), (2, aI 0 999), (3, aIt), (4, aI 0 8)], [], 0, [(4, 1, 8, true)])]) (sp := []) (fu := 25) (fa_cons (vUp q109 (by decide)) (fa_nil)) (by decide +kernel)
