/-! L2: contracts of the class -/
/-- X6_become -/
def q135c : aCt := (60, [aR [146], aR [89]], [], [(none, [(lLo, lHi), (lLo, lHi)], [])], [(146, 0, 3), (147, 0, 8), (148, 0, 8), (149, 0, 4), (150, 0, 4)])
set_option maxRecDepth 100000 in
theorem q135 : vC tS tR jT 1 q135c := chkF_ok (D := 0) (hst := jTs) (T := []) (N := []) (sp := []) (fu := 52) (fa_nil) (by decide +kernel)
/-- X6_become -/
def q136c : aCt := (60, [aR [151], aR [89]], [], [(none, [(lLo, lHi), (lLo, lHi)], [])], [(151, 0, 3), (152, 0, 8), (153, 0, 8), (154, 0, 4), (155, 0, 4)])
set_option maxRecDepth 100000 in
theorem q136 : vC tS tR jT 1 q136c := chkF_ok (D := 0) (hst := jTs) (T := []) (N := []) (sp := []) (fu := 52) (fa_nil) (by decide +kernel)
/-- X6_become -/
def q137c : aCt := (60, [aR [156], aR [89]], [], [(none, [(lLo, lHi), (lLo, lHi)], [])], [(156, 0, 3), (157, 0, 8), (158, 0, 8), (159, 0, 4), (160, 0, 4)])
set_option maxRecDepth 100000 in
theorem q137 : vC tS tR jT 1 q137c := chkF_ok (D := 0) (hst := jTs) (T := []) (N := []) (sp := []) (fu := 52) (fa_nil) (by decide +kernel)
/-- X6_become -/
def q138c : aCt := (60, [aR [161], aR [89]], [], [(none, [(lLo, lHi), (lLo, lHi)], [])], [(161, 0, 3), (162, 0, 8), (163, 0, 8), (164, 0, 4), (165, 0, 4)])
set_option maxRecDepth 100000 in
theorem q138 : vC tS tR jT 1 q138c := chkF_ok (D := 0) (hst := jTs) (T := []) (N := []) (sp := []) (fu := 52) (fa_nil) (by decide +kernel)
/-- X6_become -/
def q139c : aCt := (60, [aR [166], aR [89]], [], [(none, [(lLo, lHi), (lLo, lHi)], [])], [(166, 0, 3), (167, 0, 8), (168, 0, 8), (169, 0, 4), (170, 0, 4)])
set_option maxRecDepth 100000 in
theorem q139 : vC tS tR jT 1 q139c := chkF_ok (D := 0) (hst := jTs) (T := []) (N := []) (sp := []) (fu := 52) (fa_nil) (by decide +kernel)
/-- X6_become -/
def q140c : aCt := (60, [aR [171], aR [89]], [], [(none, [(lLo, lHi), (lLo, lHi)], [])], [(171, 0, 3), (172, 0, 8), (173, 0, 8), (174, 0, 4), (175, 0, 4)])
set_option maxRecDepth 100000 in
theorem q140 : vC tS tR jT 1 q140c := chkF_ok (D := 0) (hst := jTs) (T := []) (N := []) (sp := []) (fu := 52) (fa_nil) (by decide +kernel)
/-- X6_become -/
def q141c : aCt := (60, [aR [176], aR [89]], [], [(none, [(lLo, lHi), (lLo, lHi)], [])], [(176, 0, 3), (177, 0, 8), (178, 0, 8), (179, 0, 4), (180, 0, 4)])
set_option maxRecDepth 100000 in
theorem q141 : vC tS tR jT 1 q141c := chkF_ok (D := 0) (hst := jTs) (T := []) (N := []) (sp := []) (fu := 52) (fa_nil) (by decide +kernel)
/-- X6_become -/
def q142c : aCt := (60, [aR [181], aR [89]], [], [(none, [(lLo, lHi), (lLo, lHi)], [])], [(181, 0, 3), (182, 0, 8), (183, 0, 8), (184, 0, 4), (185, 0, 4)])
set_option maxRecDepth 100000 in
theorem q142 : vC tS tR jT 1 q142c := chkF_ok (D := 0) (hst := jTs) (T := []) (N := []) (sp := []) (fu := 52) (fa_nil) (by decide +kernel)
/-- X6_become -/
def q143c : aCt := (60, [aR [186], aR [89]], [], [(none, [(lLo, lHi), (lLo, lHi)], [])], [(186, 0, 3), (187, 0, 8), (188, 0, 8), (189, 0, 4), (190, 0, 4)])
set_option maxRecDepth 100000 in
theorem q143 : vC tS tR jT 1 q143c := chkF_ok (D := 0) (hst := jTs) (T := []) (N := []) (sp := []) (fu := 52) (fa_nil) (by decide +kernel)
/-- X6_become -/
def q144c : aCt := (60, [aR [191], aR [89]], [], [(none, [(lLo, lHi), (lLo, lHi)], [])], [(191, 0, 3), (192, 0, 8), (193, 0, 8), (194, 0, 4), (195, 0, 4)])
set_option maxRecDepth 100000 in
theorem q144 : vC tS tR jT 1 q144c := chkF_ok (D := 0) (hst := jTs) (T := []) (N := []) (sp := []) (fu := 52) (fa_nil) (by decide +kernel)
/-- X6_become -/
def q145c : aCt := (60, [aR [196], aR [89]], [], [(none, [(lLo, lHi), (lLo, lHi)], [])], [(196, 0, 3), (197, 0, 8), (198, 0, 8), (199, 0, 4), (200, 0, 4)])
set_option maxRecDepth 100000 in
theorem q145 : vC tS tR jT 1 q145c := chkF_ok (D := 0) (hst := jTs) (T := []) (N := []) (sp := []) (fu := 52) (fa_nil) (by decide +kernel)
/-- X6_become -/
def q146c : aCt := (60, [aR [201], aR [89]], [], [(none, [(lLo, lHi), (lLo, lHi)], [])], [(201, 0, 3), (202, 0, 8), (203, 0, 8), (204, 0, 4), (205, 0, 4)])
set_option maxRecDepth 100000 in
theorem q146 : vC tS tR jT 1 q146c := chkF_ok (D := 0) (hst := jTs) (T := []) (N := []) (sp := []) (fu := 52) (fa_nil) (by decide +kernel)
/-- X6_become -/
def q147c : aCt := (60, [aR [206], aR [89]], [], [(none, [(lLo, lHi), (lLo, lHi)], [])], [(206, 0, 3), (207, 0, 8), (208, 0, 8), (209, 0, 4), (210, 0, 4)])
set_option maxRecDepth 100000 in
theorem q147 : vC tS tR jT 1 q147c := chkF_ok (D := 0) (hst := jTs) (T := []) (N := []) (sp := []) (fu := 52) (fa_nil) (by decide +kernel)
/-- X6_become -/
def q148c : aCt := (60, [aR [211], aR [89]], [], [(none, [(lLo, lHi), (lLo, lHi)], [])], [(211, 0, 3), (212, 0, 8), (213, 0, 8), (214, 0, 4), (215, 0, 4)])
set_option maxRecDepth 100000 in
theorem q148 : vC tS tR jT 1 q148c := chkF_ok (D := 0) (hst := jTs) (T := []) (N := []) (sp := []) (fu := 52) (fa_nil) (by decide +kernel)
/-- X6_become -/
def q149c : aCt := (60, [aR [216], aR [89]], [], [(none, [(lLo, lHi), (lLo, lHi)], [])], [(216, 0, 3), (217, 0, 8), (218, 0, 8), (219, 0, 4), (220, 0, 4)])
set_option maxRecDepth 100000 in
theorem q149 : vC tS tR jT 1 q149c := chkF_ok (D := 0) (hst := jTs) (T := []) (N := []) (sp := []) (fu := 52) (fa_nil) (by decide +kernel)
/-- X6_become -/
def q150c : aCt := (60, [aR [221], aR [89]], [], [(none, [(lLo, lHi), (lLo, lHi)], [])], [(221, 0, 3), (222, 0, 8), (223, 0, 8), (224, 0, 4), (225, 0, 4)])
set_option maxRecDepth 100000 in
theorem q150 : vC tS tR jT 1 q150c := chkF_ok (D := 0) (hst := jTs) (T := []) (N := []) (sp := []) (fu := 52) (fa_nil) (by decide +kernel)
/-- X6_become -/
def q151c : aCt := (60, [aR [226], aR [89]], [], [(none, [(lLo, lHi), (lLo, lHi)], [])], [(226, 0, 3), (227, 0, 8), (228, 0, 8), (229, 0, 4), (230, 0, 4)])
set_option maxRecDepth 100000 in
theorem q151 : vC tS tR jT 1 q151c := chkF_ok (D := 0) (hst := jTs) (T := []) (N := []) (sp := []) (fu := 52) (fa_nil) (by decide +kernel)
/-- X6_become -/
def q152c : aCt := (60, [aR [231], aR [89]], [], [(none, [(lLo, lHi), (lLo, lHi)], [])], [(231, 0, 3), (232, 0, 8), (233, 0, 8), (234, 0, 4), (235, 0, 4)])
set_option maxRecDepth 100000 in
theorem q152 : vC tS tR jT 1 q152c := chkF_ok (D := 0) (hst := jTs) (T := []) (N := []) (sp := []) (fu := 52) (fa_nil) (by decide +kernel)
/-- X6_become -/
def q153c : aCt := (60, [aR [236], aR [89]], [], [(none, [(lLo, lHi), (lLo, lHi)], [])], [(236, 0, 3), (237, 0, 8), (238, 0, 8), (239, 0, 4), (240, 0, 4)])
set_option maxRecDepth 100000 in
theorem q153 : vC tS tR jT 1 q153c := chkF_ok (D := 0) (hst := jTs) (T := []) (N := []) (sp := []) (fu := 52) (fa_nil) (by decide +kernel)
/-- X6_become -/
def q154c : aCt := (60, [aR [241], aR [89]], [], [(none, [(lLo, lHi), (lLo, lHi)], [])], [(241, 0, 3), (242, 0, 8), (243, 0, 8), (244, 0, 4), (245, 0, 4)])
set_option maxRecDepth 100000 in
theorem q154 : vC tS tR jT 1 q154c := chkF_ok (D := 0) (hst := jTs) (T := []) (N := []) (sp := []) (fu := 52) (fa_nil) (by decide +kernel)
/-- X6_become -/
def q155c : aCt := (60, [aR [246], aR [89]], [], [(none, [(lLo, lHi), (lLo, lHi)], [])], [(246, 0, 3), (247, 0, 8), (248, 0, 8), (249, 0, 4), (250, 0, 4)])
set_option maxRecDepth 100000 in
theorem q155 : vC tS tR jT 1 q155c := chkF_ok (D := 0) (hst := jTs) (T := []) (N := []) (sp := []) (fu := 52) (fa_nil) (by decide +kernel)
/-- X6_become -/
def q156c : aCt := (60, [aR [251], aR [89]], [], [(none, [(lLo, lHi), (lLo, lHi)], [])], [(251, 0, 3), (252, 0, 8), (253, 0, 8), (254, 0, 4), (255, 0, 4)])
set_option maxRecDepth 100000 in
theorem q156 : vC tS tR jT 1 q156c := chkF_ok (D := 0) (hst := jTs) (T := []) (N := []) (sp := []) (fu := 52) (fa_nil) (by decide +kernel)
/-- X6_become -/
def q157c : aCt := (60, [aR [256], aR [89]], [], [(none, [(lLo, lHi), (lLo, lHi)], [])], [(256, 0, 3), (257, 0, 8), (258, 0, 8), (259, 0, 4), (260, 0, 4)])
set_option maxRecDepth 100000 in
theorem q157 : vC tS tR jT 1 q157c := chkF_ok (D := 0) (hst := jTs) (T := []) (N := []) (sp := []) (fu := 52) (fa_nil) (by decide +kernel)
/-- X6_become -/
def q158c : aCt := (60, [aR [261], aR [89]], [], [(none, [(lLo, lHi), (lLo, lHi)], [])], [(261, 0, 3), (262, 0, 8), (263, 0, 8), (264, 0, 4), (265, 0, 4)])
set_option maxRecDepth 100000 in
theorem q158 : vC tS tR jT 1 q158c := chkF_ok (D := 0) (hst := jTs) (T := []) (N := []) (sp := []) (fu := 52) (fa_nil) (by decide +kernel)
/-- X6_become -/
def q159c : aCt := (60, [aR [266], aR [89]], [], [(none, [(lLo, lHi), (lLo, lHi)], [])], [(266, 0, 3), (267, 0, 8), (268, 0, 8), (269, 0, 4), (270, 0, 4)])
set_option maxRecDepth 100000 in
theorem q159 : vC tS tR jT 1 q159c := chkF_ok (D := 0) (hst := jTs) (T := []) (N := []) (sp := []) (fu := 52) (fa_nil) (by decide +kernel)
/-- X6_become -/
def q160c : aCt := (60, [aR [271], aR [89]], [], [(none, [(lLo, lHi), (lLo, lHi)], [])], [(271, 0, 3), (272, 0, 8), (273, 0, 8), (274, 0, 4), (275, 0, 4)])
set_option maxRecDepth 100000 in
theorem q160 : vC tS tR jT 1 q160c := chkF_ok (D := 0) (hst := jTs) (T := []) (N := []) (sp := []) (fu := 52) (fa_nil) (by decide +kernel)
/-- X6_become -/
def q161c : aCt := (60, [aR [276], aR [89]], [], [(none, [(lLo, lHi), (lLo, lHi)], [])], [(276, 0, 3), (277, 0, 8), (278, 0, 8), (279, 0, 4), (280, 0, 4)])
set_option maxRecDepth 100000 in
theorem q161 : vC tS tR jT 1 q161c := chkF_ok (D := 0) (hst := jTs) (T := []) (N := []) (sp := []) (fu := 52) (fa_nil) (by decide +kernel)
