/-! L3: the cases of the law -/
def lwq (e : Nat × Instr × Nat) : Bool := decide (decode cL_law e.1 = .ok (e.2.1, e.2.2))
def lwL_0 : List (Nat × Instr × Nat) := [(224, .aload_n 1, 1), (225, .aload_n 0, 1), (226, .iload 4, 2), (228, .iconst 1, 1), (229, .iadd, 1), (230, .iaload, 1), (231, .aload_n 0, 1), (232, .iload 4, 2), (234, .iconst 2, 1), (235, .iadd, 1), (236, .iaload, 1), (237, .aload_n 0, 1), (238, .iload 4, 2), (240, .iconst 3, 1), (241, .iadd, 1), (242, .iaload, 1), (243, .aload_n 0, 1), (244, .iload 4, 2), (246, .iconst 4, 1), (247, .iadd, 1), (248, .iaload, 1), (249, .aload_n 0, 1), (250, .iload 4, 2), (252, .iconst 5, 1), (253, .iadd, 1), (254, .iaload, 1), (255, .invokevirtual 19, 3), (258, .pop, 1), (259, .aload_n 2, 1), (260, .aload_n 0, 1), (261, .iload 4, 2), (263, .iconst 1, 1), (264, .iadd, 1), (265, .iaload, 1), (266, .aload_n 0, 1), (267, .iload 4, 2), (269, .iconst 2, 1), (270, .iadd, 1), (271, .iaload, 1), (272, .aload_n 0, 1)]
set_option maxRecDepth 100000 in
theorem lwA_0 : lwL_0.all lwq = true := by decide +kernel
theorem dW_224 : decode cL_law 224 = .ok (.aload_n 1, 1) := of_decide_eq_true (List.all_eq_true.mp lwA_0 (224, .aload_n 1, 1) (List.mem_of_getElem? (i := 0) rfl))
theorem dW_225 : decode cL_law 225 = .ok (.aload_n 0, 1) := of_decide_eq_true (List.all_eq_true.mp lwA_0 (225, .aload_n 0, 1) (List.mem_of_getElem? (i := 1) rfl))
theorem dW_226 : decode cL_law 226 = .ok (.iload 4, 2) := of_decide_eq_true (List.all_eq_true.mp lwA_0 (226, .iload 4, 2) (List.mem_of_getElem? (i := 2) rfl))
theorem dW_228 : decode cL_law 228 = .ok (.iconst 1, 1) := of_decide_eq_true (List.all_eq_true.mp lwA_0 (228, .iconst 1, 1) (List.mem_of_getElem? (i := 3) rfl))
theorem dW_229 : decode cL_law 229 = .ok (.iadd, 1) := of_decide_eq_true (List.all_eq_true.mp lwA_0 (229, .iadd, 1) (List.mem_of_getElem? (i := 4) rfl))
theorem dW_230 : decode cL_law 230 = .ok (.iaload, 1) := of_decide_eq_true (List.all_eq_true.mp lwA_0 (230, .iaload, 1) (List.mem_of_getElem? (i := 5) rfl))
theorem dW_231 : decode cL_law 231 = .ok (.aload_n 0, 1) := of_decide_eq_true (List.all_eq_true.mp lwA_0 (231, .aload_n 0, 1) (List.mem_of_getElem? (i := 6) rfl))
theorem dW_232 : decode cL_law 232 = .ok (.iload 4, 2) := of_decide_eq_true (List.all_eq_true.mp lwA_0 (232, .iload 4, 2) (List.mem_of_getElem? (i := 7) rfl))
theorem dW_234 : decode cL_law 234 = .ok (.iconst 2, 1) := of_decide_eq_true (List.all_eq_true.mp lwA_0 (234, .iconst 2, 1) (List.mem_of_getElem? (i := 8) rfl))
theorem dW_235 : decode cL_law 235 = .ok (.iadd, 1) := of_decide_eq_true (List.all_eq_true.mp lwA_0 (235, .iadd, 1) (List.mem_of_getElem? (i := 9) rfl))
theorem dW_236 : decode cL_law 236 = .ok (.iaload, 1) := of_decide_eq_true (List.all_eq_true.mp lwA_0 (236, .iaload, 1) (List.mem_of_getElem? (i := 10) rfl))
theorem dW_237 : decode cL_law 237 = .ok (.aload_n 0, 1) := of_decide_eq_true (List.all_eq_true.mp lwA_0 (237, .aload_n 0, 1) (List.mem_of_getElem? (i := 11) rfl))
theorem dW_238 : decode cL_law 238 = .ok (.iload 4, 2) := of_decide_eq_true (List.all_eq_true.mp lwA_0 (238, .iload 4, 2) (List.mem_of_getElem? (i := 12) rfl))
theorem dW_240 : decode cL_law 240 = .ok (.iconst 3, 1) := of_decide_eq_true (List.all_eq_true.mp lwA_0 (240, .iconst 3, 1) (List.mem_of_getElem? (i := 13) rfl))
theorem dW_241 : decode cL_law 241 = .ok (.iadd, 1) := of_decide_eq_true (List.all_eq_true.mp lwA_0 (241, .iadd, 1) (List.mem_of_getElem? (i := 14) rfl))
theorem dW_242 : decode cL_law 242 = .ok (.iaload, 1) := of_decide_eq_true (List.all_eq_true.mp lwA_0 (242, .iaload, 1) (List.mem_of_getElem? (i := 15) rfl))
theorem dW_243 : decode cL_law 243 = .ok (.aload_n 0, 1) := of_decide_eq_true (List.all_eq_true.mp lwA_0 (243, .aload_n 0, 1) (List.mem_of_getElem? (i := 16) rfl))
theorem dW_244 : decode cL_law 244 = .ok (.iload 4, 2) := of_decide_eq_true (List.all_eq_true.mp lwA_0 (244, .iload 4, 2) (List.mem_of_getElem? (i := 17) rfl))
theorem dW_246 : decode cL_law 246 = .ok (.iconst 4, 1) := of_decide_eq_true (List.all_eq_true.mp lwA_0 (246, .iconst 4, 1) (List.mem_of_getElem? (i := 18) rfl))
theorem dW_247 : decode cL_law 247 = .ok (.iadd, 1) := of_decide_eq_true (List.all_eq_true.mp lwA_0 (247, .iadd, 1) (List.mem_of_getElem? (i := 19) rfl))
theorem dW_248 : decode cL_law 248 = .ok (.iaload, 1) := of_decide_eq_true (List.all_eq_true.mp lwA_0 (248, .iaload, 1) (List.mem_of_getElem? (i := 20) rfl))
theorem dW_249 : decode cL_law 249 = .ok (.aload_n 0, 1) := of_decide_eq_true (List.all_eq_true.mp lwA_0 (249, .aload_n 0, 1) (List.mem_of_getElem? (i := 21) rfl))
theorem dW_250 : decode cL_law 250 = .ok (.iload 4, 2) := of_decide_eq_true (List.all_eq_true.mp lwA_0 (250, .iload 4, 2) (List.mem_of_getElem? (i := 22) rfl))
theorem dW_252 : decode cL_law 252 = .ok (.iconst 5, 1) := of_decide_eq_true (List.all_eq_true.mp lwA_0 (252, .iconst 5, 1) (List.mem_of_getElem? (i := 23) rfl))
theorem dW_253 : decode cL_law 253 = .ok (.iadd, 1) := of_decide_eq_true (List.all_eq_true.mp lwA_0 (253, .iadd, 1) (List.mem_of_getElem? (i := 24) rfl))
theorem dW_254 : decode cL_law 254 = .ok (.iaload, 1) := of_decide_eq_true (List.all_eq_true.mp lwA_0 (254, .iaload, 1) (List.mem_of_getElem? (i := 25) rfl))
theorem dW_255 : decode cL_law 255 = .ok (.invokevirtual 19, 3) := of_decide_eq_true (List.all_eq_true.mp lwA_0 (255, .invokevirtual 19, 3) (List.mem_of_getElem? (i := 26) rfl))
theorem dW_258 : decode cL_law 258 = .ok (.pop, 1) := of_decide_eq_true (List.all_eq_true.mp lwA_0 (258, .pop, 1) (List.mem_of_getElem? (i := 27) rfl))
theorem dW_259 : decode cL_law 259 = .ok (.aload_n 2, 1) := of_decide_eq_true (List.all_eq_true.mp lwA_0 (259, .aload_n 2, 1) (List.mem_of_getElem? (i := 28) rfl))
theorem dW_260 : decode cL_law 260 = .ok (.aload_n 0, 1) := of_decide_eq_true (List.all_eq_true.mp lwA_0 (260, .aload_n 0, 1) (List.mem_of_getElem? (i := 29) rfl))
theorem dW_261 : decode cL_law 261 = .ok (.iload 4, 2) := of_decide_eq_true (List.all_eq_true.mp lwA_0 (261, .iload 4, 2) (List.mem_of_getElem? (i := 30) rfl))
theorem dW_263 : decode cL_law 263 = .ok (.iconst 1, 1) := of_decide_eq_true (List.all_eq_true.mp lwA_0 (263, .iconst 1, 1) (List.mem_of_getElem? (i := 31) rfl))
theorem dW_264 : decode cL_law 264 = .ok (.iadd, 1) := of_decide_eq_true (List.all_eq_true.mp lwA_0 (264, .iadd, 1) (List.mem_of_getElem? (i := 32) rfl))
theorem dW_265 : decode cL_law 265 = .ok (.iaload, 1) := of_decide_eq_true (List.all_eq_true.mp lwA_0 (265, .iaload, 1) (List.mem_of_getElem? (i := 33) rfl))
theorem dW_266 : decode cL_law 266 = .ok (.aload_n 0, 1) := of_decide_eq_true (List.all_eq_true.mp lwA_0 (266, .aload_n 0, 1) (List.mem_of_getElem? (i := 34) rfl))
theorem dW_267 : decode cL_law 267 = .ok (.iload 4, 2) := of_decide_eq_true (List.all_eq_true.mp lwA_0 (267, .iload 4, 2) (List.mem_of_getElem? (i := 35) rfl))
theorem dW_269 : decode cL_law 269 = .ok (.iconst 2, 1) := of_decide_eq_true (List.all_eq_true.mp lwA_0 (269, .iconst 2, 1) (List.mem_of_getElem? (i := 36) rfl))
theorem dW_270 : decode cL_law 270 = .ok (.iadd, 1) := of_decide_eq_true (List.all_eq_true.mp lwA_0 (270, .iadd, 1) (List.mem_of_getElem? (i := 37) rfl))
theorem dW_271 : decode cL_law 271 = .ok (.iaload, 1) := of_decide_eq_true (List.all_eq_true.mp lwA_0 (271, .iaload, 1) (List.mem_of_getElem? (i := 38) rfl))
theorem dW_272 : decode cL_law 272 = .ok (.aload_n 0, 1) := of_decide_eq_true (List.all_eq_true.mp lwA_0 (272, .aload_n 0, 1) (List.mem_of_getElem? (i := 39) rfl))
def lwL_1 : List (Nat × Instr × Nat) := [(273, .iload 4, 2), (275, .iconst 3, 1), (276, .iadd, 1), (277, .iaload, 1), (278, .aload_n 0, 1), (279, .iload 4, 2), (281, .iconst 4, 1), (282, .iadd, 1), (283, .iaload, 1), (284, .aload_n 0, 1), (285, .iload 4, 2), (287, .iconst 5, 1), (288, .iadd, 1), (289, .iaload, 1), (290, .invokevirtual 23, 3), (293, .pop, 1), (294, .goto 1335, 3), (297, .aload_n 1, 1), (298, .aload_n 0, 1), (299, .iload 4, 2), (301, .iconst 1, 1), (302, .iadd, 1), (303, .iaload, 1), (304, .invokevirtual 24, 3), (307, .pop, 1), (308, .aload_n 2, 1), (309, .aload_n 0, 1), (310, .iload 4, 2), (312, .iconst 1, 1), (313, .iadd, 1), (314, .iaload, 1), (315, .invokevirtual 28, 3), (318, .pop, 1), (319, .goto 1310, 3), (322, .aload_n 1, 1), (323, .aload_n 0, 1), (324, .iload 4, 2), (326, .iconst 1, 1), (327, .iadd, 1), (328, .iaload, 1)]
set_option maxRecDepth 100000 in
theorem lwA_1 : lwL_1.all lwq = true := by decide +kernel
theorem dW_273 : decode cL_law 273 = .ok (.iload 4, 2) := of_decide_eq_true (List.all_eq_true.mp lwA_1 (273, .iload 4, 2) (List.mem_of_getElem? (i := 0) rfl))
theorem dW_275 : decode cL_law 275 = .ok (.iconst 3, 1) := of_decide_eq_true (List.all_eq_true.mp lwA_1 (275, .iconst 3, 1) (List.mem_of_getElem? (i := 1) rfl))
theorem dW_276 : decode cL_law 276 = .ok (.iadd, 1) := of_decide_eq_true (List.all_eq_true.mp lwA_1 (276, .iadd, 1) (List.mem_of_getElem? (i := 2) rfl))
theorem dW_277 : decode cL_law 277 = .ok (.iaload, 1) := of_decide_eq_true (List.all_eq_true.mp lwA_1 (277, .iaload, 1) (List.mem_of_getElem? (i := 3) rfl))
theorem dW_278 : decode cL_law 278 = .ok (.aload_n 0, 1) := of_decide_eq_true (List.all_eq_true.mp lwA_1 (278, .aload_n 0, 1) (List.mem_of_getElem? (i := 4) rfl))
theorem dW_279 : decode cL_law 279 = .ok (.iload 4, 2) := of_decide_eq_true (List.all_eq_true.mp lwA_1 (279, .iload 4, 2) (List.mem_of_getElem? (i := 5) rfl))
theorem dW_281 : decode cL_law 281 = .ok (.iconst 4, 1) := of_decide_eq_true (List.all_eq_true.mp lwA_1 (281, .iconst 4, 1) (List.mem_of_getElem? (i := 6) rfl))
theorem dW_282 : decode cL_law 282 = .ok (.iadd, 1) := of_decide_eq_true (List.all_eq_true.mp lwA_1 (282, .iadd, 1) (List.mem_of_getElem? (i := 7) rfl))
theorem dW_283 : decode cL_law 283 = .ok (.iaload, 1) := of_decide_eq_true (List.all_eq_true.mp lwA_1 (283, .iaload, 1) (List.mem_of_getElem? (i := 8) rfl))
theorem dW_284 : decode cL_law 284 = .ok (.aload_n 0, 1) := of_decide_eq_true (List.all_eq_true.mp lwA_1 (284, .aload_n 0, 1) (List.mem_of_getElem? (i := 9) rfl))
theorem dW_285 : decode cL_law 285 = .ok (.iload 4, 2) := of_decide_eq_true (List.all_eq_true.mp lwA_1 (285, .iload 4, 2) (List.mem_of_getElem? (i := 10) rfl))
theorem dW_287 : decode cL_law 287 = .ok (.iconst 5, 1) := of_decide_eq_true (List.all_eq_true.mp lwA_1 (287, .iconst 5, 1) (List.mem_of_getElem? (i := 11) rfl))
theorem dW_288 : decode cL_law 288 = .ok (.iadd, 1) := of_decide_eq_true (List.all_eq_true.mp lwA_1 (288, .iadd, 1) (List.mem_of_getElem? (i := 12) rfl))
theorem dW_289 : decode cL_law 289 = .ok (.iaload, 1) := of_decide_eq_true (List.all_eq_true.mp lwA_1 (289, .iaload, 1) (List.mem_of_getElem? (i := 13) rfl))
theorem dW_290 : decode cL_law 290 = .ok (.invokevirtual 23, 3) := of_decide_eq_true (List.all_eq_true.mp lwA_1 (290, .invokevirtual 23, 3) (List.mem_of_getElem? (i := 14) rfl))
theorem dW_293 : decode cL_law 293 = .ok (.pop, 1) := of_decide_eq_true (List.all_eq_true.mp lwA_1 (293, .pop, 1) (List.mem_of_getElem? (i := 15) rfl))
theorem dW_294 : decode cL_law 294 = .ok (.goto 1335, 3) := of_decide_eq_true (List.all_eq_true.mp lwA_1 (294, .goto 1335, 3) (List.mem_of_getElem? (i := 16) rfl))
theorem dW_297 : decode cL_law 297 = .ok (.aload_n 1, 1) := of_decide_eq_true (List.all_eq_true.mp lwA_1 (297, .aload_n 1, 1) (List.mem_of_getElem? (i := 17) rfl))
theorem dW_298 : decode cL_law 298 = .ok (.aload_n 0, 1) := of_decide_eq_true (List.all_eq_true.mp lwA_1 (298, .aload_n 0, 1) (List.mem_of_getElem? (i := 18) rfl))
theorem dW_299 : decode cL_law 299 = .ok (.iload 4, 2) := of_decide_eq_true (List.all_eq_true.mp lwA_1 (299, .iload 4, 2) (List.mem_of_getElem? (i := 19) rfl))
theorem dW_301 : decode cL_law 301 = .ok (.iconst 1, 1) := of_decide_eq_true (List.all_eq_true.mp lwA_1 (301, .iconst 1, 1) (List.mem_of_getElem? (i := 20) rfl))
theorem dW_302 : decode cL_law 302 = .ok (.iadd, 1) := of_decide_eq_true (List.all_eq_true.mp lwA_1 (302, .iadd, 1) (List.mem_of_getElem? (i := 21) rfl))
theorem dW_303 : decode cL_law 303 = .ok (.iaload, 1) := of_decide_eq_true (List.all_eq_true.mp lwA_1 (303, .iaload, 1) (List.mem_of_getElem? (i := 22) rfl))
theorem dW_304 : decode cL_law 304 = .ok (.invokevirtual 24, 3) := of_decide_eq_true (List.all_eq_true.mp lwA_1 (304, .invokevirtual 24, 3) (List.mem_of_getElem? (i := 23) rfl))
theorem dW_307 : decode cL_law 307 = .ok (.pop, 1) := of_decide_eq_true (List.all_eq_true.mp lwA_1 (307, .pop, 1) (List.mem_of_getElem? (i := 24) rfl))
theorem dW_308 : decode cL_law 308 = .ok (.aload_n 2, 1) := of_decide_eq_true (List.all_eq_true.mp lwA_1 (308, .aload_n 2, 1) (List.mem_of_getElem? (i := 25) rfl))
theorem dW_309 : decode cL_law 309 = .ok (.aload_n 0, 1) := of_decide_eq_true (List.all_eq_true.mp lwA_1 (309, .aload_n 0, 1) (List.mem_of_getElem? (i := 26) rfl))
theorem dW_310 : decode cL_law 310 = .ok (.iload 4, 2) := of_decide_eq_true (List.all_eq_true.mp lwA_1 (310, .iload 4, 2) (List.mem_of_getElem? (i := 27) rfl))
theorem dW_312 : decode cL_law 312 = .ok (.iconst 1, 1) := of_decide_eq_true (List.all_eq_true.mp lwA_1 (312, .iconst 1, 1) (List.mem_of_getElem? (i := 28) rfl))
theorem dW_313 : decode cL_law 313 = .ok (.iadd, 1) := of_decide_eq_true (List.all_eq_true.mp lwA_1 (313, .iadd, 1) (List.mem_of_getElem? (i := 29) rfl))
theorem dW_314 : decode cL_law 314 = .ok (.iaload, 1) := of_decide_eq_true (List.all_eq_true.mp lwA_1 (314, .iaload, 1) (List.mem_of_getElem? (i := 30) rfl))
theorem dW_315 : decode cL_law 315 = .ok (.invokevirtual 28, 3) := of_decide_eq_true (List.all_eq_true.mp lwA_1 (315, .invokevirtual 28, 3) (List.mem_of_getElem? (i := 31) rfl))
theorem dW_318 : decode cL_law 318 = .ok (.pop, 1) := of_decide_eq_true (List.all_eq_true.mp lwA_1 (318, .pop, 1) (List.mem_of_getElem? (i := 32) rfl))
theorem dW_319 : decode cL_law 319 = .ok (.goto 1310, 3) := of_decide_eq_true (List.all_eq_true.mp lwA_1 (319, .goto 1310, 3) (List.mem_of_getElem? (i := 33) rfl))
theorem dW_322 : decode cL_law 322 = .ok (.aload_n 1, 1) := of_decide_eq_true (List.all_eq_true.mp lwA_1 (322, .aload_n 1, 1) (List.mem_of_getElem? (i := 34) rfl))
theorem dW_323 : decode cL_law 323 = .ok (.aload_n 0, 1) := of_decide_eq_true (List.all_eq_true.mp lwA_1 (323, .aload_n 0, 1) (List.mem_of_getElem? (i := 35) rfl))
theorem dW_324 : decode cL_law 324 = .ok (.iload 4, 2) := of_decide_eq_true (List.all_eq_true.mp lwA_1 (324, .iload 4, 2) (List.mem_of_getElem? (i := 36) rfl))
theorem dW_326 : decode cL_law 326 = .ok (.iconst 1, 1) := of_decide_eq_true (List.all_eq_true.mp lwA_1 (326, .iconst 1, 1) (List.mem_of_getElem? (i := 37) rfl))
theorem dW_327 : decode cL_law 327 = .ok (.iadd, 1) := of_decide_eq_true (List.all_eq_true.mp lwA_1 (327, .iadd, 1) (List.mem_of_getElem? (i := 38) rfl))
theorem dW_328 : decode cL_law 328 = .ok (.iaload, 1) := of_decide_eq_true (List.all_eq_true.mp lwA_1 (328, .iaload, 1) (List.mem_of_getElem? (i := 39) rfl))
def lwL_2 : List (Nat × Instr × Nat) := [(329, .invokevirtual 29, 3), (332, .pop, 1), (333, .aload_n 2, 1), (334, .aload_n 0, 1), (335, .iload 4, 2), (337, .iconst 1, 1), (338, .iadd, 1), (339, .iaload, 1), (340, .invokevirtual 33, 3), (343, .pop, 1), (344, .goto 1285, 3), (347, .aload_n 1, 1), (348, .aload_n 0, 1), (349, .iload 4, 2), (351, .iconst 1, 1), (352, .iadd, 1), (353, .iaload, 1), (354, .invokevirtual 34, 3), (357, .pop, 1), (358, .aload_n 2, 1), (359, .aload_n 0, 1), (360, .iload 4, 2), (362, .iconst 1, 1), (363, .iadd, 1), (364, .iaload, 1), (365, .invokevirtual 37, 3), (368, .pop, 1), (369, .goto 1260, 3), (372, .aload_n 1, 1), (373, .aload_n 0, 1), (374, .iload 4, 2), (376, .iconst 1, 1), (377, .iadd, 1), (378, .iaload, 1), (379, .aload_n 0, 1), (380, .iload 4, 2), (382, .iconst 2, 1), (383, .iadd, 1), (384, .iaload, 1), (385, .invokevirtual 38, 3)]
set_option maxRecDepth 100000 in
theorem lwA_2 : lwL_2.all lwq = true := by decide +kernel
theorem dW_329 : decode cL_law 329 = .ok (.invokevirtual 29, 3) := of_decide_eq_true (List.all_eq_true.mp lwA_2 (329, .invokevirtual 29, 3) (List.mem_of_getElem? (i := 0) rfl))
theorem dW_332 : decode cL_law 332 = .ok (.pop, 1) := of_decide_eq_true (List.all_eq_true.mp lwA_2 (332, .pop, 1) (List.mem_of_getElem? (i := 1) rfl))
theorem dW_333 : decode cL_law 333 = .ok (.aload_n 2, 1) := of_decide_eq_true (List.all_eq_true.mp lwA_2 (333, .aload_n 2, 1) (List.mem_of_getElem? (i := 2) rfl))
theorem dW_334 : decode cL_law 334 = .ok (.aload_n 0, 1) := of_decide_eq_true (List.all_eq_true.mp lwA_2 (334, .aload_n 0, 1) (List.mem_of_getElem? (i := 3) rfl))
theorem dW_335 : decode cL_law 335 = .ok (.iload 4, 2) := of_decide_eq_true (List.all_eq_true.mp lwA_2 (335, .iload 4, 2) (List.mem_of_getElem? (i := 4) rfl))
theorem dW_337 : decode cL_law 337 = .ok (.iconst 1, 1) := of_decide_eq_true (List.all_eq_true.mp lwA_2 (337, .iconst 1, 1) (List.mem_of_getElem? (i := 5) rfl))
theorem dW_338 : decode cL_law 338 = .ok (.iadd, 1) := of_decide_eq_true (List.all_eq_true.mp lwA_2 (338, .iadd, 1) (List.mem_of_getElem? (i := 6) rfl))
theorem dW_339 : decode cL_law 339 = .ok (.iaload, 1) := of_decide_eq_true (List.all_eq_true.mp lwA_2 (339, .iaload, 1) (List.mem_of_getElem? (i := 7) rfl))
theorem dW_340 : decode cL_law 340 = .ok (.invokevirtual 33, 3) := of_decide_eq_true (List.all_eq_true.mp lwA_2 (340, .invokevirtual 33, 3) (List.mem_of_getElem? (i := 8) rfl))
theorem dW_343 : decode cL_law 343 = .ok (.pop, 1) := of_decide_eq_true (List.all_eq_true.mp lwA_2 (343, .pop, 1) (List.mem_of_getElem? (i := 9) rfl))
theorem dW_344 : decode cL_law 344 = .ok (.goto 1285, 3) := of_decide_eq_true (List.all_eq_true.mp lwA_2 (344, .goto 1285, 3) (List.mem_of_getElem? (i := 10) rfl))
theorem dW_347 : decode cL_law 347 = .ok (.aload_n 1, 1) := of_decide_eq_true (List.all_eq_true.mp lwA_2 (347, .aload_n 1, 1) (List.mem_of_getElem? (i := 11) rfl))
theorem dW_348 : decode cL_law 348 = .ok (.aload_n 0, 1) := of_decide_eq_true (List.all_eq_true.mp lwA_2 (348, .aload_n 0, 1) (List.mem_of_getElem? (i := 12) rfl))
theorem dW_349 : decode cL_law 349 = .ok (.iload 4, 2) := of_decide_eq_true (List.all_eq_true.mp lwA_2 (349, .iload 4, 2) (List.mem_of_getElem? (i := 13) rfl))
theorem dW_351 : decode cL_law 351 = .ok (.iconst 1, 1) := of_decide_eq_true (List.all_eq_true.mp lwA_2 (351, .iconst 1, 1) (List.mem_of_getElem? (i := 14) rfl))
theorem dW_352 : decode cL_law 352 = .ok (.iadd, 1) := of_decide_eq_true (List.all_eq_true.mp lwA_2 (352, .iadd, 1) (List.mem_of_getElem? (i := 15) rfl))
theorem dW_353 : decode cL_law 353 = .ok (.iaload, 1) := of_decide_eq_true (List.all_eq_true.mp lwA_2 (353, .iaload, 1) (List.mem_of_getElem? (i := 16) rfl))
theorem dW_354 : decode cL_law 354 = .ok (.invokevirtual 34, 3) := of_decide_eq_true (List.all_eq_true.mp lwA_2 (354, .invokevirtual 34, 3) (List.mem_of_getElem? (i := 17) rfl))
theorem dW_357 : decode cL_law 357 = .ok (.pop, 1) := of_decide_eq_true (List.all_eq_true.mp lwA_2 (357, .pop, 1) (List.mem_of_getElem? (i := 18) rfl))
theorem dW_358 : decode cL_law 358 = .ok (.aload_n 2, 1) := of_decide_eq_true (List.all_eq_true.mp lwA_2 (358, .aload_n 2, 1) (List.mem_of_getElem? (i := 19) rfl))
theorem dW_359 : decode cL_law 359 = .ok (.aload_n 0, 1) := of_decide_eq_true (List.all_eq_true.mp lwA_2 (359, .aload_n 0, 1) (List.mem_of_getElem? (i := 20) rfl))
theorem dW_360 : decode cL_law 360 = .ok (.iload 4, 2) := of_decide_eq_true (List.all_eq_true.mp lwA_2 (360, .iload 4, 2) (List.mem_of_getElem? (i := 21) rfl))
theorem dW_362 : decode cL_law 362 = .ok (.iconst 1, 1) := of_decide_eq_true (List.all_eq_true.mp lwA_2 (362, .iconst 1, 1) (List.mem_of_getElem? (i := 22) rfl))
theorem dW_363 : decode cL_law 363 = .ok (.iadd, 1) := of_decide_eq_true (List.all_eq_true.mp lwA_2 (363, .iadd, 1) (List.mem_of_getElem? (i := 23) rfl))
theorem dW_364 : decode cL_law 364 = .ok (.iaload, 1) := of_decide_eq_true (List.all_eq_true.mp lwA_2 (364, .iaload, 1) (List.mem_of_getElem? (i := 24) rfl))
theorem dW_365 : decode cL_law 365 = .ok (.invokevirtual 37, 3) := of_decide_eq_true (List.all_eq_true.mp lwA_2 (365, .invokevirtual 37, 3) (List.mem_of_getElem? (i := 25) rfl))
theorem dW_368 : decode cL_law 368 = .ok (.pop, 1) := of_decide_eq_true (List.all_eq_true.mp lwA_2 (368, .pop, 1) (List.mem_of_getElem? (i := 26) rfl))
theorem dW_369 : decode cL_law 369 = .ok (.goto 1260, 3) := of_decide_eq_true (List.all_eq_true.mp lwA_2 (369, .goto 1260, 3) (List.mem_of_getElem? (i := 27) rfl))
theorem dW_372 : decode cL_law 372 = .ok (.aload_n 1, 1) := of_decide_eq_true (List.all_eq_true.mp lwA_2 (372, .aload_n 1, 1) (List.mem_of_getElem? (i := 28) rfl))
theorem dW_373 : decode cL_law 373 = .ok (.aload_n 0, 1) := of_decide_eq_true (List.all_eq_true.mp lwA_2 (373, .aload_n 0, 1) (List.mem_of_getElem? (i := 29) rfl))
theorem dW_374 : decode cL_law 374 = .ok (.iload 4, 2) := of_decide_eq_true (List.all_eq_true.mp lwA_2 (374, .iload 4, 2) (List.mem_of_getElem? (i := 30) rfl))
theorem dW_376 : decode cL_law 376 = .ok (.iconst 1, 1) := of_decide_eq_true (List.all_eq_true.mp lwA_2 (376, .iconst 1, 1) (List.mem_of_getElem? (i := 31) rfl))
theorem dW_377 : decode cL_law 377 = .ok (.iadd, 1) := of_decide_eq_true (List.all_eq_true.mp lwA_2 (377, .iadd, 1) (List.mem_of_getElem? (i := 32) rfl))
theorem dW_378 : decode cL_law 378 = .ok (.iaload, 1) := of_decide_eq_true (List.all_eq_true.mp lwA_2 (378, .iaload, 1) (List.mem_of_getElem? (i := 33) rfl))
theorem dW_379 : decode cL_law 379 = .ok (.aload_n 0, 1) := of_decide_eq_true (List.all_eq_true.mp lwA_2 (379, .aload_n 0, 1) (List.mem_of_getElem? (i := 34) rfl))
theorem dW_380 : decode cL_law 380 = .ok (.iload 4, 2) := of_decide_eq_true (List.all_eq_true.mp lwA_2 (380, .iload 4, 2) (List.mem_of_getElem? (i := 35) rfl))
theorem dW_382 : decode cL_law 382 = .ok (.iconst 2, 1) := of_decide_eq_true (List.all_eq_true.mp lwA_2 (382, .iconst 2, 1) (List.mem_of_getElem? (i := 36) rfl))
theorem dW_383 : decode cL_law 383 = .ok (.iadd, 1) := of_decide_eq_true (List.all_eq_true.mp lwA_2 (383, .iadd, 1) (List.mem_of_getElem? (i := 37) rfl))
theorem dW_384 : decode cL_law 384 = .ok (.iaload, 1) := of_decide_eq_true (List.all_eq_true.mp lwA_2 (384, .iaload, 1) (List.mem_of_getElem? (i := 38) rfl))
theorem dW_385 : decode cL_law 385 = .ok (.invokevirtual 38, 3) := of_decide_eq_true (List.all_eq_true.mp lwA_2 (385, .invokevirtual 38, 3) (List.mem_of_getElem? (i := 39) rfl))
def lwL_3 : List (Nat × Instr × Nat) := [(388, .pop, 1), (389, .aload_n 2, 1), (390, .aload_n 0, 1), (391, .iload 4, 2), (393, .iconst 1, 1), (394, .iadd, 1), (395, .iaload, 1), (396, .aload_n 0, 1), (397, .iload 4, 2), (399, .iconst 2, 1), (400, .iadd, 1), (401, .iaload, 1), (402, .invokevirtual 41, 3), (405, .pop, 1), (406, .goto 1223, 3), (409, .aload_n 1, 1), (410, .aload_n 0, 1), (411, .iload 4, 2), (413, .iconst 1, 1), (414, .iadd, 1), (415, .iaload, 1), (416, .aload_n 0, 1), (417, .iload 4, 2), (419, .iconst 2, 1), (420, .iadd, 1), (421, .iaload, 1), (422, .invokevirtual 42, 3), (425, .pop, 1), (426, .aload_n 2, 1), (427, .aload_n 0, 1), (428, .iload 4, 2), (430, .iconst 1, 1), (431, .iadd, 1), (432, .iaload, 1), (433, .aload_n 0, 1), (434, .iload 4, 2), (436, .iconst 2, 1), (437, .iadd, 1), (438, .iaload, 1), (439, .invokevirtual 45, 3)]
set_option maxRecDepth 100000 in
theorem lwA_3 : lwL_3.all lwq = true := by decide +kernel
theorem dW_388 : decode cL_law 388 = .ok (.pop, 1) := of_decide_eq_true (List.all_eq_true.mp lwA_3 (388, .pop, 1) (List.mem_of_getElem? (i := 0) rfl))
theorem dW_389 : decode cL_law 389 = .ok (.aload_n 2, 1) := of_decide_eq_true (List.all_eq_true.mp lwA_3 (389, .aload_n 2, 1) (List.mem_of_getElem? (i := 1) rfl))
theorem dW_390 : decode cL_law 390 = .ok (.aload_n 0, 1) := of_decide_eq_true (List.all_eq_true.mp lwA_3 (390, .aload_n 0, 1) (List.mem_of_getElem? (i := 2) rfl))
theorem dW_391 : decode cL_law 391 = .ok (.iload 4, 2) := of_decide_eq_true (List.all_eq_true.mp lwA_3 (391, .iload 4, 2) (List.mem_of_getElem? (i := 3) rfl))
theorem dW_393 : decode cL_law 393 = .ok (.iconst 1, 1) := of_decide_eq_true (List.all_eq_true.mp lwA_3 (393, .iconst 1, 1) (List.mem_of_getElem? (i := 4) rfl))
theorem dW_394 : decode cL_law 394 = .ok (.iadd, 1) := of_decide_eq_true (List.all_eq_true.mp lwA_3 (394, .iadd, 1) (List.mem_of_getElem? (i := 5) rfl))
theorem dW_395 : decode cL_law 395 = .ok (.iaload, 1) := of_decide_eq_true (List.all_eq_true.mp lwA_3 (395, .iaload, 1) (List.mem_of_getElem? (i := 6) rfl))
theorem dW_396 : decode cL_law 396 = .ok (.aload_n 0, 1) := of_decide_eq_true (List.all_eq_true.mp lwA_3 (396, .aload_n 0, 1) (List.mem_of_getElem? (i := 7) rfl))
theorem dW_397 : decode cL_law 397 = .ok (.iload 4, 2) := of_decide_eq_true (List.all_eq_true.mp lwA_3 (397, .iload 4, 2) (List.mem_of_getElem? (i := 8) rfl))
theorem dW_399 : decode cL_law 399 = .ok (.iconst 2, 1) := of_decide_eq_true (List.all_eq_true.mp lwA_3 (399, .iconst 2, 1) (List.mem_of_getElem? (i := 9) rfl))
theorem dW_400 : decode cL_law 400 = .ok (.iadd, 1) := of_decide_eq_true (List.all_eq_true.mp lwA_3 (400, .iadd, 1) (List.mem_of_getElem? (i := 10) rfl))
theorem dW_401 : decode cL_law 401 = .ok (.iaload, 1) := of_decide_eq_true (List.all_eq_true.mp lwA_3 (401, .iaload, 1) (List.mem_of_getElem? (i := 11) rfl))
theorem dW_402 : decode cL_law 402 = .ok (.invokevirtual 41, 3) := of_decide_eq_true (List.all_eq_true.mp lwA_3 (402, .invokevirtual 41, 3) (List.mem_of_getElem? (i := 12) rfl))
theorem dW_405 : decode cL_law 405 = .ok (.pop, 1) := of_decide_eq_true (List.all_eq_true.mp lwA_3 (405, .pop, 1) (List.mem_of_getElem? (i := 13) rfl))
theorem dW_406 : decode cL_law 406 = .ok (.goto 1223, 3) := of_decide_eq_true (List.all_eq_true.mp lwA_3 (406, .goto 1223, 3) (List.mem_of_getElem? (i := 14) rfl))
theorem dW_409 : decode cL_law 409 = .ok (.aload_n 1, 1) := of_decide_eq_true (List.all_eq_true.mp lwA_3 (409, .aload_n 1, 1) (List.mem_of_getElem? (i := 15) rfl))
theorem dW_410 : decode cL_law 410 = .ok (.aload_n 0, 1) := of_decide_eq_true (List.all_eq_true.mp lwA_3 (410, .aload_n 0, 1) (List.mem_of_getElem? (i := 16) rfl))
theorem dW_411 : decode cL_law 411 = .ok (.iload 4, 2) := of_decide_eq_true (List.all_eq_true.mp lwA_3 (411, .iload 4, 2) (List.mem_of_getElem? (i := 17) rfl))
theorem dW_413 : decode cL_law 413 = .ok (.iconst 1, 1) := of_decide_eq_true (List.all_eq_true.mp lwA_3 (413, .iconst 1, 1) (List.mem_of_getElem? (i := 18) rfl))
theorem dW_414 : decode cL_law 414 = .ok (.iadd, 1) := of_decide_eq_true (List.all_eq_true.mp lwA_3 (414, .iadd, 1) (List.mem_of_getElem? (i := 19) rfl))
theorem dW_415 : decode cL_law 415 = .ok (.iaload, 1) := of_decide_eq_true (List.all_eq_true.mp lwA_3 (415, .iaload, 1) (List.mem_of_getElem? (i := 20) rfl))
theorem dW_416 : decode cL_law 416 = .ok (.aload_n 0, 1) := of_decide_eq_true (List.all_eq_true.mp lwA_3 (416, .aload_n 0, 1) (List.mem_of_getElem? (i := 21) rfl))
theorem dW_417 : decode cL_law 417 = .ok (.iload 4, 2) := of_decide_eq_true (List.all_eq_true.mp lwA_3 (417, .iload 4, 2) (List.mem_of_getElem? (i := 22) rfl))
theorem dW_419 : decode cL_law 419 = .ok (.iconst 2, 1) := of_decide_eq_true (List.all_eq_true.mp lwA_3 (419, .iconst 2, 1) (List.mem_of_getElem? (i := 23) rfl))
theorem dW_420 : decode cL_law 420 = .ok (.iadd, 1) := of_decide_eq_true (List.all_eq_true.mp lwA_3 (420, .iadd, 1) (List.mem_of_getElem? (i := 24) rfl))
theorem dW_421 : decode cL_law 421 = .ok (.iaload, 1) := of_decide_eq_true (List.all_eq_true.mp lwA_3 (421, .iaload, 1) (List.mem_of_getElem? (i := 25) rfl))
theorem dW_422 : decode cL_law 422 = .ok (.invokevirtual 42, 3) := of_decide_eq_true (List.all_eq_true.mp lwA_3 (422, .invokevirtual 42, 3) (List.mem_of_getElem? (i := 26) rfl))
theorem dW_425 : decode cL_law 425 = .ok (.pop, 1) := of_decide_eq_true (List.all_eq_true.mp lwA_3 (425, .pop, 1) (List.mem_of_getElem? (i := 27) rfl))
theorem dW_426 : decode cL_law 426 = .ok (.aload_n 2, 1) := of_decide_eq_true (List.all_eq_true.mp lwA_3 (426, .aload_n 2, 1) (List.mem_of_getElem? (i := 28) rfl))
theorem dW_427 : decode cL_law 427 = .ok (.aload_n 0, 1) := of_decide_eq_true (List.all_eq_true.mp lwA_3 (427, .aload_n 0, 1) (List.mem_of_getElem? (i := 29) rfl))
theorem dW_428 : decode cL_law 428 = .ok (.iload 4, 2) := of_decide_eq_true (List.all_eq_true.mp lwA_3 (428, .iload 4, 2) (List.mem_of_getElem? (i := 30) rfl))
theorem dW_430 : decode cL_law 430 = .ok (.iconst 1, 1) := of_decide_eq_true (List.all_eq_true.mp lwA_3 (430, .iconst 1, 1) (List.mem_of_getElem? (i := 31) rfl))
theorem dW_431 : decode cL_law 431 = .ok (.iadd, 1) := of_decide_eq_true (List.all_eq_true.mp lwA_3 (431, .iadd, 1) (List.mem_of_getElem? (i := 32) rfl))
theorem dW_432 : decode cL_law 432 = .ok (.iaload, 1) := of_decide_eq_true (List.all_eq_true.mp lwA_3 (432, .iaload, 1) (List.mem_of_getElem? (i := 33) rfl))
theorem dW_433 : decode cL_law 433 = .ok (.aload_n 0, 1) := of_decide_eq_true (List.all_eq_true.mp lwA_3 (433, .aload_n 0, 1) (List.mem_of_getElem? (i := 34) rfl))
theorem dW_434 : decode cL_law 434 = .ok (.iload 4, 2) := of_decide_eq_true (List.all_eq_true.mp lwA_3 (434, .iload 4, 2) (List.mem_of_getElem? (i := 35) rfl))
theorem dW_436 : decode cL_law 436 = .ok (.iconst 2, 1) := of_decide_eq_true (List.all_eq_true.mp lwA_3 (436, .iconst 2, 1) (List.mem_of_getElem? (i := 36) rfl))
theorem dW_437 : decode cL_law 437 = .ok (.iadd, 1) := of_decide_eq_true (List.all_eq_true.mp lwA_3 (437, .iadd, 1) (List.mem_of_getElem? (i := 37) rfl))
theorem dW_438 : decode cL_law 438 = .ok (.iaload, 1) := of_decide_eq_true (List.all_eq_true.mp lwA_3 (438, .iaload, 1) (List.mem_of_getElem? (i := 38) rfl))
theorem dW_439 : decode cL_law 439 = .ok (.invokevirtual 45, 3) := of_decide_eq_true (List.all_eq_true.mp lwA_3 (439, .invokevirtual 45, 3) (List.mem_of_getElem? (i := 39) rfl))
def lwL_4 : List (Nat × Instr × Nat) := [(442, .pop, 1), (443, .goto 1186, 3), (514, .aload_n 1, 1), (515, .aload_n 0, 1), (516, .iload 4, 2), (518, .iconst 1, 1), (519, .iadd, 1), (520, .iaload, 1), (521, .invokevirtual 56, 3), (524, .pop, 1), (525, .aload_n 2, 1), (526, .aload_n 0, 1), (527, .iload 4, 2), (529, .iconst 1, 1), (530, .iadd, 1), (531, .iaload, 1), (532, .invokevirtual 59, 3), (535, .pop, 1), (536, .goto 1093, 3), (539, .aload_n 1, 1), (540, .aload_n 0, 1), (541, .iload 4, 2), (543, .iconst 1, 1), (544, .iadd, 1), (545, .iaload, 1), (546, .invokevirtual 60, 3), (549, .pop, 1), (550, .aload_n 2, 1), (551, .aload_n 0, 1), (552, .iload 4, 2), (554, .iconst 1, 1), (555, .iadd, 1), (556, .iaload, 1), (557, .invokevirtual 63, 3), (560, .pop, 1), (561, .goto 1068, 3), (564, .aload_n 1, 1), (565, .invokevirtual 64, 3), (568, .pop, 1), (569, .aload_n 2, 1)]
set_option maxRecDepth 100000 in
theorem lwA_4 : lwL_4.all lwq = true := by decide +kernel
theorem dW_442 : decode cL_law 442 = .ok (.pop, 1) := of_decide_eq_true (List.all_eq_true.mp lwA_4 (442, .pop, 1) (List.mem_of_getElem? (i := 0) rfl))
theorem dW_443 : decode cL_law 443 = .ok (.goto 1186, 3) := of_decide_eq_true (List.all_eq_true.mp lwA_4 (443, .goto 1186, 3) (List.mem_of_getElem? (i := 1) rfl))
theorem dW_514 : decode cL_law 514 = .ok (.aload_n 1, 1) := of_decide_eq_true (List.all_eq_true.mp lwA_4 (514, .aload_n 1, 1) (List.mem_of_getElem? (i := 2) rfl))
theorem dW_515 : decode cL_law 515 = .ok (.aload_n 0, 1) := of_decide_eq_true (List.all_eq_true.mp lwA_4 (515, .aload_n 0, 1) (List.mem_of_getElem? (i := 3) rfl))
theorem dW_516 : decode cL_law 516 = .ok (.iload 4, 2) := of_decide_eq_true (List.all_eq_true.mp lwA_4 (516, .iload 4, 2) (List.mem_of_getElem? (i := 4) rfl))
theorem dW_518 : decode cL_law 518 = .ok (.iconst 1, 1) := of_decide_eq_true (List.all_eq_true.mp lwA_4 (518, .iconst 1, 1) (List.mem_of_getElem? (i := 5) rfl))
theorem dW_519 : decode cL_law 519 = .ok (.iadd, 1) := of_decide_eq_true (List.all_eq_true.mp lwA_4 (519, .iadd, 1) (List.mem_of_getElem? (i := 6) rfl))
theorem dW_520 : decode cL_law 520 = .ok (.iaload, 1) := of_decide_eq_true (List.all_eq_true.mp lwA_4 (520, .iaload, 1) (List.mem_of_getElem? (i := 7) rfl))
theorem dW_521 : decode cL_law 521 = .ok (.invokevirtual 56, 3) := of_decide_eq_true (List.all_eq_true.mp lwA_4 (521, .invokevirtual 56, 3) (List.mem_of_getElem? (i := 8) rfl))
theorem dW_524 : decode cL_law 524 = .ok (.pop, 1) := of_decide_eq_true (List.all_eq_true.mp lwA_4 (524, .pop, 1) (List.mem_of_getElem? (i := 9) rfl))
theorem dW_525 : decode cL_law 525 = .ok (.aload_n 2, 1) := of_decide_eq_true (List.all_eq_true.mp lwA_4 (525, .aload_n 2, 1) (List.mem_of_getElem? (i := 10) rfl))
theorem dW_526 : decode cL_law 526 = .ok (.aload_n 0, 1) := of_decide_eq_true (List.all_eq_true.mp lwA_4 (526, .aload_n 0, 1) (List.mem_of_getElem? (i := 11) rfl))
theorem dW_527 : decode cL_law 527 = .ok (.iload 4, 2) := of_decide_eq_true (List.all_eq_true.mp lwA_4 (527, .iload 4, 2) (List.mem_of_getElem? (i := 12) rfl))
theorem dW_529 : decode cL_law 529 = .ok (.iconst 1, 1) := of_decide_eq_true (List.all_eq_true.mp lwA_4 (529, .iconst 1, 1) (List.mem_of_getElem? (i := 13) rfl))
theorem dW_530 : decode cL_law 530 = .ok (.iadd, 1) := of_decide_eq_true (List.all_eq_true.mp lwA_4 (530, .iadd, 1) (List.mem_of_getElem? (i := 14) rfl))
theorem dW_531 : decode cL_law 531 = .ok (.iaload, 1) := of_decide_eq_true (List.all_eq_true.mp lwA_4 (531, .iaload, 1) (List.mem_of_getElem? (i := 15) rfl))
theorem dW_532 : decode cL_law 532 = .ok (.invokevirtual 59, 3) := of_decide_eq_true (List.all_eq_true.mp lwA_4 (532, .invokevirtual 59, 3) (List.mem_of_getElem? (i := 16) rfl))
theorem dW_535 : decode cL_law 535 = .ok (.pop, 1) := of_decide_eq_true (List.all_eq_true.mp lwA_4 (535, .pop, 1) (List.mem_of_getElem? (i := 17) rfl))
theorem dW_536 : decode cL_law 536 = .ok (.goto 1093, 3) := of_decide_eq_true (List.all_eq_true.mp lwA_4 (536, .goto 1093, 3) (List.mem_of_getElem? (i := 18) rfl))
theorem dW_539 : decode cL_law 539 = .ok (.aload_n 1, 1) := of_decide_eq_true (List.all_eq_true.mp lwA_4 (539, .aload_n 1, 1) (List.mem_of_getElem? (i := 19) rfl))
theorem dW_540 : decode cL_law 540 = .ok (.aload_n 0, 1) := of_decide_eq_true (List.all_eq_true.mp lwA_4 (540, .aload_n 0, 1) (List.mem_of_getElem? (i := 20) rfl))
theorem dW_541 : decode cL_law 541 = .ok (.iload 4, 2) := of_decide_eq_true (List.all_eq_true.mp lwA_4 (541, .iload 4, 2) (List.mem_of_getElem? (i := 21) rfl))
theorem dW_543 : decode cL_law 543 = .ok (.iconst 1, 1) := of_decide_eq_true (List.all_eq_true.mp lwA_4 (543, .iconst 1, 1) (List.mem_of_getElem? (i := 22) rfl))
theorem dW_544 : decode cL_law 544 = .ok (.iadd, 1) := of_decide_eq_true (List.all_eq_true.mp lwA_4 (544, .iadd, 1) (List.mem_of_getElem? (i := 23) rfl))
theorem dW_545 : decode cL_law 545 = .ok (.iaload, 1) := of_decide_eq_true (List.all_eq_true.mp lwA_4 (545, .iaload, 1) (List.mem_of_getElem? (i := 24) rfl))
theorem dW_546 : decode cL_law 546 = .ok (.invokevirtual 60, 3) := of_decide_eq_true (List.all_eq_true.mp lwA_4 (546, .invokevirtual 60, 3) (List.mem_of_getElem? (i := 25) rfl))
theorem dW_549 : decode cL_law 549 = .ok (.pop, 1) := of_decide_eq_true (List.all_eq_true.mp lwA_4 (549, .pop, 1) (List.mem_of_getElem? (i := 26) rfl))
theorem dW_550 : decode cL_law 550 = .ok (.aload_n 2, 1) := of_decide_eq_true (List.all_eq_true.mp lwA_4 (550, .aload_n 2, 1) (List.mem_of_getElem? (i := 27) rfl))
theorem dW_551 : decode cL_law 551 = .ok (.aload_n 0, 1) := of_decide_eq_true (List.all_eq_true.mp lwA_4 (551, .aload_n 0, 1) (List.mem_of_getElem? (i := 28) rfl))
theorem dW_552 : decode cL_law 552 = .ok (.iload 4, 2) := of_decide_eq_true (List.all_eq_true.mp lwA_4 (552, .iload 4, 2) (List.mem_of_getElem? (i := 29) rfl))
theorem dW_554 : decode cL_law 554 = .ok (.iconst 1, 1) := of_decide_eq_true (List.all_eq_true.mp lwA_4 (554, .iconst 1, 1) (List.mem_of_getElem? (i := 30) rfl))
theorem dW_555 : decode cL_law 555 = .ok (.iadd, 1) := of_decide_eq_true (List.all_eq_true.mp lwA_4 (555, .iadd, 1) (List.mem_of_getElem? (i := 31) rfl))
theorem dW_556 : decode cL_law 556 = .ok (.iaload, 1) := of_decide_eq_true (List.all_eq_true.mp lwA_4 (556, .iaload, 1) (List.mem_of_getElem? (i := 32) rfl))
theorem dW_557 : decode cL_law 557 = .ok (.invokevirtual 63, 3) := of_decide_eq_true (List.all_eq_true.mp lwA_4 (557, .invokevirtual 63, 3) (List.mem_of_getElem? (i := 33) rfl))
theorem dW_560 : decode cL_law 560 = .ok (.pop, 1) := of_decide_eq_true (List.all_eq_true.mp lwA_4 (560, .pop, 1) (List.mem_of_getElem? (i := 34) rfl))
theorem dW_561 : decode cL_law 561 = .ok (.goto 1068, 3) := of_decide_eq_true (List.all_eq_true.mp lwA_4 (561, .goto 1068, 3) (List.mem_of_getElem? (i := 35) rfl))
theorem dW_564 : decode cL_law 564 = .ok (.aload_n 1, 1) := of_decide_eq_true (List.all_eq_true.mp lwA_4 (564, .aload_n 1, 1) (List.mem_of_getElem? (i := 36) rfl))
theorem dW_565 : decode cL_law 565 = .ok (.invokevirtual 64, 3) := of_decide_eq_true (List.all_eq_true.mp lwA_4 (565, .invokevirtual 64, 3) (List.mem_of_getElem? (i := 37) rfl))
theorem dW_568 : decode cL_law 568 = .ok (.pop, 1) := of_decide_eq_true (List.all_eq_true.mp lwA_4 (568, .pop, 1) (List.mem_of_getElem? (i := 38) rfl))
theorem dW_569 : decode cL_law 569 = .ok (.aload_n 2, 1) := of_decide_eq_true (List.all_eq_true.mp lwA_4 (569, .aload_n 2, 1) (List.mem_of_getElem? (i := 39) rfl))
def lwL_5 : List (Nat × Instr × Nat) := [(570, .invokevirtual 67, 3), (573, .pop, 1), (574, .goto 1055, 3), (577, .aload_n 1, 1), (578, .aload_n 0, 1), (579, .iload 4, 2), (581, .iconst 1, 1), (582, .iadd, 1), (583, .iaload, 1), (584, .invokevirtual 68, 3), (587, .pop, 1), (588, .aload_n 2, 1), (589, .aload_n 0, 1), (590, .iload 4, 2), (592, .iconst 1, 1), (593, .iadd, 1), (594, .iaload, 1), (595, .invokevirtual 71, 3), (598, .pop, 1), (599, .goto 1030, 3), (602, .aload_n 1, 1), (603, .aload_n 0, 1), (604, .iload 4, 2), (606, .iconst 1, 1), (607, .iadd, 1), (608, .iaload, 1), (609, .invokevirtual 72, 3), (612, .pop, 1), (613, .aload_n 2, 1), (614, .aload_n 0, 1), (615, .iload 4, 2), (617, .iconst 1, 1), (618, .iadd, 1), (619, .iaload, 1), (620, .invokevirtual 75, 3), (623, .pop, 1), (624, .goto 1005, 3), (627, .aload_n 1, 1), (628, .aload_n 0, 1), (629, .iload 4, 2)]
set_option maxRecDepth 100000 in
theorem lwA_5 : lwL_5.all lwq = true := by decide +kernel
theorem dW_570 : decode cL_law 570 = .ok (.invokevirtual 67, 3) := of_decide_eq_true (List.all_eq_true.mp lwA_5 (570, .invokevirtual 67, 3) (List.mem_of_getElem? (i := 0) rfl))
theorem dW_573 : decode cL_law 573 = .ok (.pop, 1) := of_decide_eq_true (List.all_eq_true.mp lwA_5 (573, .pop, 1) (List.mem_of_getElem? (i := 1) rfl))
theorem dW_574 : decode cL_law 574 = .ok (.goto 1055, 3) := of_decide_eq_true (List.all_eq_true.mp lwA_5 (574, .goto 1055, 3) (List.mem_of_getElem? (i := 2) rfl))
theorem dW_577 : decode cL_law 577 = .ok (.aload_n 1, 1) := of_decide_eq_true (List.all_eq_true.mp lwA_5 (577, .aload_n 1, 1) (List.mem_of_getElem? (i := 3) rfl))
theorem dW_578 : decode cL_law 578 = .ok (.aload_n 0, 1) := of_decide_eq_true (List.all_eq_true.mp lwA_5 (578, .aload_n 0, 1) (List.mem_of_getElem? (i := 4) rfl))
theorem dW_579 : decode cL_law 579 = .ok (.iload 4, 2) := of_decide_eq_true (List.all_eq_true.mp lwA_5 (579, .iload 4, 2) (List.mem_of_getElem? (i := 5) rfl))
theorem dW_581 : decode cL_law 581 = .ok (.iconst 1, 1) := of_decide_eq_true (List.all_eq_true.mp lwA_5 (581, .iconst 1, 1) (List.mem_of_getElem? (i := 6) rfl))
theorem dW_582 : decode cL_law 582 = .ok (.iadd, 1) := of_decide_eq_true (List.all_eq_true.mp lwA_5 (582, .iadd, 1) (List.mem_of_getElem? (i := 7) rfl))
theorem dW_583 : decode cL_law 583 = .ok (.iaload, 1) := of_decide_eq_true (List.all_eq_true.mp lwA_5 (583, .iaload, 1) (List.mem_of_getElem? (i := 8) rfl))
theorem dW_584 : decode cL_law 584 = .ok (.invokevirtual 68, 3) := of_decide_eq_true (List.all_eq_true.mp lwA_5 (584, .invokevirtual 68, 3) (List.mem_of_getElem? (i := 9) rfl))
theorem dW_587 : decode cL_law 587 = .ok (.pop, 1) := of_decide_eq_true (List.all_eq_true.mp lwA_5 (587, .pop, 1) (List.mem_of_getElem? (i := 10) rfl))
theorem dW_588 : decode cL_law 588 = .ok (.aload_n 2, 1) := of_decide_eq_true (List.all_eq_true.mp lwA_5 (588, .aload_n 2, 1) (List.mem_of_getElem? (i := 11) rfl))
theorem dW_589 : decode cL_law 589 = .ok (.aload_n 0, 1) := of_decide_eq_true (List.all_eq_true.mp lwA_5 (589, .aload_n 0, 1) (List.mem_of_getElem? (i := 12) rfl))
theorem dW_590 : decode cL_law 590 = .ok (.iload 4, 2) := of_decide_eq_true (List.all_eq_true.mp lwA_5 (590, .iload 4, 2) (List.mem_of_getElem? (i := 13) rfl))
theorem dW_592 : decode cL_law 592 = .ok (.iconst 1, 1) := of_decide_eq_true (List.all_eq_true.mp lwA_5 (592, .iconst 1, 1) (List.mem_of_getElem? (i := 14) rfl))
theorem dW_593 : decode cL_law 593 = .ok (.iadd, 1) := of_decide_eq_true (List.all_eq_true.mp lwA_5 (593, .iadd, 1) (List.mem_of_getElem? (i := 15) rfl))
theorem dW_594 : decode cL_law 594 = .ok (.iaload, 1) := of_decide_eq_true (List.all_eq_true.mp lwA_5 (594, .iaload, 1) (List.mem_of_getElem? (i := 16) rfl))
theorem dW_595 : decode cL_law 595 = .ok (.invokevirtual 71, 3) := of_decide_eq_true (List.all_eq_true.mp lwA_5 (595, .invokevirtual 71, 3) (List.mem_of_getElem? (i := 17) rfl))
theorem dW_598 : decode cL_law 598 = .ok (.pop, 1) := of_decide_eq_true (List.all_eq_true.mp lwA_5 (598, .pop, 1) (List.mem_of_getElem? (i := 18) rfl))
theorem dW_599 : decode cL_law 599 = .ok (.goto 1030, 3) := of_decide_eq_true (List.all_eq_true.mp lwA_5 (599, .goto 1030, 3) (List.mem_of_getElem? (i := 19) rfl))
theorem dW_602 : decode cL_law 602 = .ok (.aload_n 1, 1) := of_decide_eq_true (List.all_eq_true.mp lwA_5 (602, .aload_n 1, 1) (List.mem_of_getElem? (i := 20) rfl))
theorem dW_603 : decode cL_law 603 = .ok (.aload_n 0, 1) := of_decide_eq_true (List.all_eq_true.mp lwA_5 (603, .aload_n 0, 1) (List.mem_of_getElem? (i := 21) rfl))
theorem dW_604 : decode cL_law 604 = .ok (.iload 4, 2) := of_decide_eq_true (List.all_eq_true.mp lwA_5 (604, .iload 4, 2) (List.mem_of_getElem? (i := 22) rfl))
theorem dW_606 : decode cL_law 606 = .ok (.iconst 1, 1) := of_decide_eq_true (List.all_eq_true.mp lwA_5 (606, .iconst 1, 1) (List.mem_of_getElem? (i := 23) rfl))
theorem dW_607 : decode cL_law 607 = .ok (.iadd, 1) := of_decide_eq_true (List.all_eq_true.mp lwA_5 (607, .iadd, 1) (List.mem_of_getElem? (i := 24) rfl))
theorem dW_608 : decode cL_law 608 = .ok (.iaload, 1) := of_decide_eq_true (List.all_eq_true.mp lwA_5 (608, .iaload, 1) (List.mem_of_getElem? (i := 25) rfl))
theorem dW_609 : decode cL_law 609 = .ok (.invokevirtual 72, 3) := of_decide_eq_true (List.all_eq_true.mp lwA_5 (609, .invokevirtual 72, 3) (List.mem_of_getElem? (i := 26) rfl))
theorem dW_612 : decode cL_law 612 = .ok (.pop, 1) := of_decide_eq_true (List.all_eq_true.mp lwA_5 (612, .pop, 1) (List.mem_of_getElem? (i := 27) rfl))
theorem dW_613 : decode cL_law 613 = .ok (.aload_n 2, 1) := of_decide_eq_true (List.all_eq_true.mp lwA_5 (613, .aload_n 2, 1) (List.mem_of_getElem? (i := 28) rfl))
theorem dW_614 : decode cL_law 614 = .ok (.aload_n 0, 1) := of_decide_eq_true (List.all_eq_true.mp lwA_5 (614, .aload_n 0, 1) (List.mem_of_getElem? (i := 29) rfl))
theorem dW_615 : decode cL_law 615 = .ok (.iload 4, 2) := of_decide_eq_true (List.all_eq_true.mp lwA_5 (615, .iload 4, 2) (List.mem_of_getElem? (i := 30) rfl))
theorem dW_617 : decode cL_law 617 = .ok (.iconst 1, 1) := of_decide_eq_true (List.all_eq_true.mp lwA_5 (617, .iconst 1, 1) (List.mem_of_getElem? (i := 31) rfl))
theorem dW_618 : decode cL_law 618 = .ok (.iadd, 1) := of_decide_eq_true (List.all_eq_true.mp lwA_5 (618, .iadd, 1) (List.mem_of_getElem? (i := 32) rfl))
theorem dW_619 : decode cL_law 619 = .ok (.iaload, 1) := of_decide_eq_true (List.all_eq_true.mp lwA_5 (619, .iaload, 1) (List.mem_of_getElem? (i := 33) rfl))
theorem dW_620 : decode cL_law 620 = .ok (.invokevirtual 75, 3) := of_decide_eq_true (List.all_eq_true.mp lwA_5 (620, .invokevirtual 75, 3) (List.mem_of_getElem? (i := 34) rfl))
theorem dW_623 : decode cL_law 623 = .ok (.pop, 1) := of_decide_eq_true (List.all_eq_true.mp lwA_5 (623, .pop, 1) (List.mem_of_getElem? (i := 35) rfl))
theorem dW_624 : decode cL_law 624 = .ok (.goto 1005, 3) := of_decide_eq_true (List.all_eq_true.mp lwA_5 (624, .goto 1005, 3) (List.mem_of_getElem? (i := 36) rfl))
theorem dW_627 : decode cL_law 627 = .ok (.aload_n 1, 1) := of_decide_eq_true (List.all_eq_true.mp lwA_5 (627, .aload_n 1, 1) (List.mem_of_getElem? (i := 37) rfl))
theorem dW_628 : decode cL_law 628 = .ok (.aload_n 0, 1) := of_decide_eq_true (List.all_eq_true.mp lwA_5 (628, .aload_n 0, 1) (List.mem_of_getElem? (i := 38) rfl))
theorem dW_629 : decode cL_law 629 = .ok (.iload 4, 2) := of_decide_eq_true (List.all_eq_true.mp lwA_5 (629, .iload 4, 2) (List.mem_of_getElem? (i := 39) rfl))
def lwL_6 : List (Nat × Instr × Nat) := [(631, .iconst 1, 1), (632, .iadd, 1), (633, .iaload, 1), (634, .aload_n 0, 1), (635, .iload 4, 2), (637, .iconst 2, 1), (638, .iadd, 1), (639, .iaload, 1), (640, .invokevirtual 76, 3), (643, .pop, 1), (644, .aload_n 2, 1), (645, .aload_n 0, 1), (646, .iload 4, 2), (648, .iconst 1, 1), (649, .iadd, 1), (650, .iaload, 1), (651, .aload_n 0, 1), (652, .iload 4, 2), (654, .iconst 2, 1), (655, .iadd, 1), (656, .iaload, 1), (657, .invokevirtual 79, 3), (660, .pop, 1), (661, .goto 968, 3), (664, .aload_n 1, 1), (665, .aload_n 0, 1), (666, .iload 4, 2), (668, .iconst 1, 1), (669, .iadd, 1), (670, .iaload, 1), (671, .invokevirtual 80, 3), (674, .pop, 1), (675, .aload_n 2, 1), (676, .aload_n 0, 1), (677, .iload 4, 2), (679, .iconst 1, 1), (680, .iadd, 1), (681, .iaload, 1), (682, .invokevirtual 83, 3), (685, .pop, 1)]
set_option maxRecDepth 100000 in
theorem lwA_6 : lwL_6.all lwq = true := by decide +kernel
theorem dW_631 : decode cL_law 631 = .ok (.iconst 1, 1) := of_decide_eq_true (List.all_eq_true.mp lwA_6 (631, .iconst 1, 1) (List.mem_of_getElem? (i := 0) rfl))
theorem dW_632 : decode cL_law 632 = .ok (.iadd, 1) := of_decide_eq_true (List.all_eq_true.mp lwA_6 (632, .iadd, 1) (List.mem_of_getElem? (i := 1) rfl))
theorem dW_633 : decode cL_law 633 = .ok (.iaload, 1) := of_decide_eq_true (List.all_eq_true.mp lwA_6 (633, .iaload, 1) (List.mem_of_getElem? (i := 2) rfl))
theorem dW_634 : decode cL_law 634 = .ok (.aload_n 0, 1) := of_decide_eq_true (List.all_eq_true.mp lwA_6 (634, .aload_n 0, 1) (List.mem_of_getElem? (i := 3) rfl))
theorem dW_635 : decode cL_law 635 = .ok (.iload 4, 2) := of_decide_eq_true (List.all_eq_true.mp lwA_6 (635, .iload 4, 2) (List.mem_of_getElem? (i := 4) rfl))
theorem dW_637 : decode cL_law 637 = .ok (.iconst 2, 1) := of_decide_eq_true (List.all_eq_true.mp lwA_6 (637, .iconst 2, 1) (List.mem_of_getElem? (i := 5) rfl))
theorem dW_638 : decode cL_law 638 = .ok (.iadd, 1) := of_decide_eq_true (List.all_eq_true.mp lwA_6 (638, .iadd, 1) (List.mem_of_getElem? (i := 6) rfl))
theorem dW_639 : decode cL_law 639 = .ok (.iaload, 1) := of_decide_eq_true (List.all_eq_true.mp lwA_6 (639, .iaload, 1) (List.mem_of_getElem? (i := 7) rfl))
theorem dW_640 : decode cL_law 640 = .ok (.invokevirtual 76, 3) := of_decide_eq_true (List.all_eq_true.mp lwA_6 (640, .invokevirtual 76, 3) (List.mem_of_getElem? (i := 8) rfl))
theorem dW_643 : decode cL_law 643 = .ok (.pop, 1) := of_decide_eq_true (List.all_eq_true.mp lwA_6 (643, .pop, 1) (List.mem_of_getElem? (i := 9) rfl))
theorem dW_644 : decode cL_law 644 = .ok (.aload_n 2, 1) := of_decide_eq_true (List.all_eq_true.mp lwA_6 (644, .aload_n 2, 1) (List.mem_of_getElem? (i := 10) rfl))
theorem dW_645 : decode cL_law 645 = .ok (.aload_n 0, 1) := of_decide_eq_true (List.all_eq_true.mp lwA_6 (645, .aload_n 0, 1) (List.mem_of_getElem? (i := 11) rfl))
theorem dW_646 : decode cL_law 646 = .ok (.iload 4, 2) := of_decide_eq_true (List.all_eq_true.mp lwA_6 (646, .iload 4, 2) (List.mem_of_getElem? (i := 12) rfl))
theorem dW_648 : decode cL_law 648 = .ok (.iconst 1, 1) := of_decide_eq_true (List.all_eq_true.mp lwA_6 (648, .iconst 1, 1) (List.mem_of_getElem? (i := 13) rfl))
theorem dW_649 : decode cL_law 649 = .ok (.iadd, 1) := of_decide_eq_true (List.all_eq_true.mp lwA_6 (649, .iadd, 1) (List.mem_of_getElem? (i := 14) rfl))
theorem dW_650 : decode cL_law 650 = .ok (.iaload, 1) := of_decide_eq_true (List.all_eq_true.mp lwA_6 (650, .iaload, 1) (List.mem_of_getElem? (i := 15) rfl))
theorem dW_651 : decode cL_law 651 = .ok (.aload_n 0, 1) := of_decide_eq_true (List.all_eq_true.mp lwA_6 (651, .aload_n 0, 1) (List.mem_of_getElem? (i := 16) rfl))
theorem dW_652 : decode cL_law 652 = .ok (.iload 4, 2) := of_decide_eq_true (List.all_eq_true.mp lwA_6 (652, .iload 4, 2) (List.mem_of_getElem? (i := 17) rfl))
theorem dW_654 : decode cL_law 654 = .ok (.iconst 2, 1) := of_decide_eq_true (List.all_eq_true.mp lwA_6 (654, .iconst 2, 1) (List.mem_of_getElem? (i := 18) rfl))
theorem dW_655 : decode cL_law 655 = .ok (.iadd, 1) := of_decide_eq_true (List.all_eq_true.mp lwA_6 (655, .iadd, 1) (List.mem_of_getElem? (i := 19) rfl))
theorem dW_656 : decode cL_law 656 = .ok (.iaload, 1) := of_decide_eq_true (List.all_eq_true.mp lwA_6 (656, .iaload, 1) (List.mem_of_getElem? (i := 20) rfl))
theorem dW_657 : decode cL_law 657 = .ok (.invokevirtual 79, 3) := of_decide_eq_true (List.all_eq_true.mp lwA_6 (657, .invokevirtual 79, 3) (List.mem_of_getElem? (i := 21) rfl))
theorem dW_660 : decode cL_law 660 = .ok (.pop, 1) := of_decide_eq_true (List.all_eq_true.mp lwA_6 (660, .pop, 1) (List.mem_of_getElem? (i := 22) rfl))
theorem dW_661 : decode cL_law 661 = .ok (.goto 968, 3) := of_decide_eq_true (List.all_eq_true.mp lwA_6 (661, .goto 968, 3) (List.mem_of_getElem? (i := 23) rfl))
theorem dW_664 : decode cL_law 664 = .ok (.aload_n 1, 1) := of_decide_eq_true (List.all_eq_true.mp lwA_6 (664, .aload_n 1, 1) (List.mem_of_getElem? (i := 24) rfl))
theorem dW_665 : decode cL_law 665 = .ok (.aload_n 0, 1) := of_decide_eq_true (List.all_eq_true.mp lwA_6 (665, .aload_n 0, 1) (List.mem_of_getElem? (i := 25) rfl))
theorem dW_666 : decode cL_law 666 = .ok (.iload 4, 2) := of_decide_eq_true (List.all_eq_true.mp lwA_6 (666, .iload 4, 2) (List.mem_of_getElem? (i := 26) rfl))
theorem dW_668 : decode cL_law 668 = .ok (.iconst 1, 1) := of_decide_eq_true (List.all_eq_true.mp lwA_6 (668, .iconst 1, 1) (List.mem_of_getElem? (i := 27) rfl))
theorem dW_669 : decode cL_law 669 = .ok (.iadd, 1) := of_decide_eq_true (List.all_eq_true.mp lwA_6 (669, .iadd, 1) (List.mem_of_getElem? (i := 28) rfl))
theorem dW_670 : decode cL_law 670 = .ok (.iaload, 1) := of_decide_eq_true (List.all_eq_true.mp lwA_6 (670, .iaload, 1) (List.mem_of_getElem? (i := 29) rfl))
theorem dW_671 : decode cL_law 671 = .ok (.invokevirtual 80, 3) := of_decide_eq_true (List.all_eq_true.mp lwA_6 (671, .invokevirtual 80, 3) (List.mem_of_getElem? (i := 30) rfl))
theorem dW_674 : decode cL_law 674 = .ok (.pop, 1) := of_decide_eq_true (List.all_eq_true.mp lwA_6 (674, .pop, 1) (List.mem_of_getElem? (i := 31) rfl))
theorem dW_675 : decode cL_law 675 = .ok (.aload_n 2, 1) := of_decide_eq_true (List.all_eq_true.mp lwA_6 (675, .aload_n 2, 1) (List.mem_of_getElem? (i := 32) rfl))
theorem dW_676 : decode cL_law 676 = .ok (.aload_n 0, 1) := of_decide_eq_true (List.all_eq_true.mp lwA_6 (676, .aload_n 0, 1) (List.mem_of_getElem? (i := 33) rfl))
theorem dW_677 : decode cL_law 677 = .ok (.iload 4, 2) := of_decide_eq_true (List.all_eq_true.mp lwA_6 (677, .iload 4, 2) (List.mem_of_getElem? (i := 34) rfl))
theorem dW_679 : decode cL_law 679 = .ok (.iconst 1, 1) := of_decide_eq_true (List.all_eq_true.mp lwA_6 (679, .iconst 1, 1) (List.mem_of_getElem? (i := 35) rfl))
theorem dW_680 : decode cL_law 680 = .ok (.iadd, 1) := of_decide_eq_true (List.all_eq_true.mp lwA_6 (680, .iadd, 1) (List.mem_of_getElem? (i := 36) rfl))
theorem dW_681 : decode cL_law 681 = .ok (.iaload, 1) := of_decide_eq_true (List.all_eq_true.mp lwA_6 (681, .iaload, 1) (List.mem_of_getElem? (i := 37) rfl))
theorem dW_682 : decode cL_law 682 = .ok (.invokevirtual 83, 3) := of_decide_eq_true (List.all_eq_true.mp lwA_6 (682, .invokevirtual 83, 3) (List.mem_of_getElem? (i := 38) rfl))
theorem dW_685 : decode cL_law 685 = .ok (.pop, 1) := of_decide_eq_true (List.all_eq_true.mp lwA_6 (685, .pop, 1) (List.mem_of_getElem? (i := 39) rfl))
def lwL_7 : List (Nat × Instr × Nat) := [(686, .goto 943, 3), (689, .aload_n 1, 1), (690, .aload_n 0, 1), (691, .iload 4, 2), (693, .iconst 1, 1), (694, .iadd, 1), (695, .iaload, 1), (696, .invokevirtual 84, 3), (699, .pop, 1), (700, .aload_n 2, 1), (701, .aload_n 0, 1), (702, .iload 4, 2), (704, .iconst 1, 1), (705, .iadd, 1), (706, .iaload, 1), (707, .invokevirtual 87, 3), (710, .pop, 1), (711, .goto 918, 3), (714, .aload_n 1, 1), (715, .aload_n 0, 1), (716, .iload 4, 2), (718, .iconst 1, 1), (719, .iadd, 1), (720, .iaload, 1), (721, .aload_n 0, 1), (722, .iload 4, 2), (724, .iconst 2, 1), (725, .iadd, 1), (726, .iaload, 1), (727, .i2l, 1), (728, .bipush 32, 2), (730, .lshl, 1), (731, .aload_n 0, 1), (732, .iload 4, 2), (734, .iconst 3, 1), (735, .iadd, 1), (736, .iaload, 1), (737, .i2l, 1), (738, .ldc2_w 88, 3), (741, .land, 1)]
set_option maxRecDepth 100000 in
theorem lwA_7 : lwL_7.all lwq = true := by decide +kernel
theorem dW_686 : decode cL_law 686 = .ok (.goto 943, 3) := of_decide_eq_true (List.all_eq_true.mp lwA_7 (686, .goto 943, 3) (List.mem_of_getElem? (i := 0) rfl))
theorem dW_689 : decode cL_law 689 = .ok (.aload_n 1, 1) := of_decide_eq_true (List.all_eq_true.mp lwA_7 (689, .aload_n 1, 1) (List.mem_of_getElem? (i := 1) rfl))
theorem dW_690 : decode cL_law 690 = .ok (.aload_n 0, 1) := of_decide_eq_true (List.all_eq_true.mp lwA_7 (690, .aload_n 0, 1) (List.mem_of_getElem? (i := 2) rfl))
theorem dW_691 : decode cL_law 691 = .ok (.iload 4, 2) := of_decide_eq_true (List.all_eq_true.mp lwA_7 (691, .iload 4, 2) (List.mem_of_getElem? (i := 3) rfl))
theorem dW_693 : decode cL_law 693 = .ok (.iconst 1, 1) := of_decide_eq_true (List.all_eq_true.mp lwA_7 (693, .iconst 1, 1) (List.mem_of_getElem? (i := 4) rfl))
theorem dW_694 : decode cL_law 694 = .ok (.iadd, 1) := of_decide_eq_true (List.all_eq_true.mp lwA_7 (694, .iadd, 1) (List.mem_of_getElem? (i := 5) rfl))
theorem dW_695 : decode cL_law 695 = .ok (.iaload, 1) := of_decide_eq_true (List.all_eq_true.mp lwA_7 (695, .iaload, 1) (List.mem_of_getElem? (i := 6) rfl))
theorem dW_696 : decode cL_law 696 = .ok (.invokevirtual 84, 3) := of_decide_eq_true (List.all_eq_true.mp lwA_7 (696, .invokevirtual 84, 3) (List.mem_of_getElem? (i := 7) rfl))
theorem dW_699 : decode cL_law 699 = .ok (.pop, 1) := of_decide_eq_true (List.all_eq_true.mp lwA_7 (699, .pop, 1) (List.mem_of_getElem? (i := 8) rfl))
theorem dW_700 : decode cL_law 700 = .ok (.aload_n 2, 1) := of_decide_eq_true (List.all_eq_true.mp lwA_7 (700, .aload_n 2, 1) (List.mem_of_getElem? (i := 9) rfl))
theorem dW_701 : decode cL_law 701 = .ok (.aload_n 0, 1) := of_decide_eq_true (List.all_eq_true.mp lwA_7 (701, .aload_n 0, 1) (List.mem_of_getElem? (i := 10) rfl))
theorem dW_702 : decode cL_law 702 = .ok (.iload 4, 2) := of_decide_eq_true (List.all_eq_true.mp lwA_7 (702, .iload 4, 2) (List.mem_of_getElem? (i := 11) rfl))
theorem dW_704 : decode cL_law 704 = .ok (.iconst 1, 1) := of_decide_eq_true (List.all_eq_true.mp lwA_7 (704, .iconst 1, 1) (List.mem_of_getElem? (i := 12) rfl))
theorem dW_705 : decode cL_law 705 = .ok (.iadd, 1) := of_decide_eq_true (List.all_eq_true.mp lwA_7 (705, .iadd, 1) (List.mem_of_getElem? (i := 13) rfl))
theorem dW_706 : decode cL_law 706 = .ok (.iaload, 1) := of_decide_eq_true (List.all_eq_true.mp lwA_7 (706, .iaload, 1) (List.mem_of_getElem? (i := 14) rfl))
theorem dW_707 : decode cL_law 707 = .ok (.invokevirtual 87, 3) := of_decide_eq_true (List.all_eq_true.mp lwA_7 (707, .invokevirtual 87, 3) (List.mem_of_getElem? (i := 15) rfl))
theorem dW_710 : decode cL_law 710 = .ok (.pop, 1) := of_decide_eq_true (List.all_eq_true.mp lwA_7 (710, .pop, 1) (List.mem_of_getElem? (i := 16) rfl))
theorem dW_711 : decode cL_law 711 = .ok (.goto 918, 3) := of_decide_eq_true (List.all_eq_true.mp lwA_7 (711, .goto 918, 3) (List.mem_of_getElem? (i := 17) rfl))
theorem dW_714 : decode cL_law 714 = .ok (.aload_n 1, 1) := of_decide_eq_true (List.all_eq_true.mp lwA_7 (714, .aload_n 1, 1) (List.mem_of_getElem? (i := 18) rfl))
theorem dW_715 : decode cL_law 715 = .ok (.aload_n 0, 1) := of_decide_eq_true (List.all_eq_true.mp lwA_7 (715, .aload_n 0, 1) (List.mem_of_getElem? (i := 19) rfl))
theorem dW_716 : decode cL_law 716 = .ok (.iload 4, 2) := of_decide_eq_true (List.all_eq_true.mp lwA_7 (716, .iload 4, 2) (List.mem_of_getElem? (i := 20) rfl))
theorem dW_718 : decode cL_law 718 = .ok (.iconst 1, 1) := of_decide_eq_true (List.all_eq_true.mp lwA_7 (718, .iconst 1, 1) (List.mem_of_getElem? (i := 21) rfl))
theorem dW_719 : decode cL_law 719 = .ok (.iadd, 1) := of_decide_eq_true (List.all_eq_true.mp lwA_7 (719, .iadd, 1) (List.mem_of_getElem? (i := 22) rfl))
theorem dW_720 : decode cL_law 720 = .ok (.iaload, 1) := of_decide_eq_true (List.all_eq_true.mp lwA_7 (720, .iaload, 1) (List.mem_of_getElem? (i := 23) rfl))
theorem dW_721 : decode cL_law 721 = .ok (.aload_n 0, 1) := of_decide_eq_true (List.all_eq_true.mp lwA_7 (721, .aload_n 0, 1) (List.mem_of_getElem? (i := 24) rfl))
theorem dW_722 : decode cL_law 722 = .ok (.iload 4, 2) := of_decide_eq_true (List.all_eq_true.mp lwA_7 (722, .iload 4, 2) (List.mem_of_getElem? (i := 25) rfl))
theorem dW_724 : decode cL_law 724 = .ok (.iconst 2, 1) := of_decide_eq_true (List.all_eq_true.mp lwA_7 (724, .iconst 2, 1) (List.mem_of_getElem? (i := 26) rfl))
theorem dW_725 : decode cL_law 725 = .ok (.iadd, 1) := of_decide_eq_true (List.all_eq_true.mp lwA_7 (725, .iadd, 1) (List.mem_of_getElem? (i := 27) rfl))
theorem dW_726 : decode cL_law 726 = .ok (.iaload, 1) := of_decide_eq_true (List.all_eq_true.mp lwA_7 (726, .iaload, 1) (List.mem_of_getElem? (i := 28) rfl))
theorem dW_727 : decode cL_law 727 = .ok (.i2l, 1) := of_decide_eq_true (List.all_eq_true.mp lwA_7 (727, .i2l, 1) (List.mem_of_getElem? (i := 29) rfl))
theorem dW_728 : decode cL_law 728 = .ok (.bipush 32, 2) := of_decide_eq_true (List.all_eq_true.mp lwA_7 (728, .bipush 32, 2) (List.mem_of_getElem? (i := 30) rfl))
theorem dW_730 : decode cL_law 730 = .ok (.lshl, 1) := of_decide_eq_true (List.all_eq_true.mp lwA_7 (730, .lshl, 1) (List.mem_of_getElem? (i := 31) rfl))
theorem dW_731 : decode cL_law 731 = .ok (.aload_n 0, 1) := of_decide_eq_true (List.all_eq_true.mp lwA_7 (731, .aload_n 0, 1) (List.mem_of_getElem? (i := 32) rfl))
theorem dW_732 : decode cL_law 732 = .ok (.iload 4, 2) := of_decide_eq_true (List.all_eq_true.mp lwA_7 (732, .iload 4, 2) (List.mem_of_getElem? (i := 33) rfl))
theorem dW_734 : decode cL_law 734 = .ok (.iconst 3, 1) := of_decide_eq_true (List.all_eq_true.mp lwA_7 (734, .iconst 3, 1) (List.mem_of_getElem? (i := 34) rfl))
theorem dW_735 : decode cL_law 735 = .ok (.iadd, 1) := of_decide_eq_true (List.all_eq_true.mp lwA_7 (735, .iadd, 1) (List.mem_of_getElem? (i := 35) rfl))
theorem dW_736 : decode cL_law 736 = .ok (.iaload, 1) := of_decide_eq_true (List.all_eq_true.mp lwA_7 (736, .iaload, 1) (List.mem_of_getElem? (i := 36) rfl))
theorem dW_737 : decode cL_law 737 = .ok (.i2l, 1) := of_decide_eq_true (List.all_eq_true.mp lwA_7 (737, .i2l, 1) (List.mem_of_getElem? (i := 37) rfl))
theorem dW_738 : decode cL_law 738 = .ok (.ldc2_w 88, 3) := of_decide_eq_true (List.all_eq_true.mp lwA_7 (738, .ldc2_w 88, 3) (List.mem_of_getElem? (i := 38) rfl))
theorem dW_741 : decode cL_law 741 = .ok (.land, 1) := of_decide_eq_true (List.all_eq_true.mp lwA_7 (741, .land, 1) (List.mem_of_getElem? (i := 39) rfl))
def lwL_8 : List (Nat × Instr × Nat) := [(742, .lor, 1), (743, .invokevirtual 90, 3), (746, .pop, 1), (747, .aload_n 2, 1), (748, .aload_n 0, 1), (749, .iload 4, 2), (751, .iconst 1, 1), (752, .iadd, 1), (753, .iaload, 1), (754, .aload_n 0, 1), (755, .iload 4, 2), (757, .iconst 2, 1), (758, .iadd, 1), (759, .iaload, 1), (760, .i2l, 1), (761, .bipush 32, 2), (763, .lshl, 1), (764, .aload_n 0, 1), (765, .iload 4, 2), (767, .iconst 3, 1), (768, .iadd, 1), (769, .iaload, 1), (770, .i2l, 1), (771, .ldc2_w 88, 3), (774, .land, 1), (775, .lor, 1), (776, .invokevirtual 94, 3), (779, .pop, 1), (780, .goto 849, 3), (783, .aload_n 1, 1), (784, .invokevirtual 95, 3), (787, .pop, 1), (788, .aload_n 2, 1), (789, .invokevirtual 98, 3), (792, .pop, 1), (793, .goto 836, 3), (796, .aload_n 1, 1), (797, .aload_n 0, 1), (798, .iload 4, 2), (800, .iconst 1, 1)]
set_option maxRecDepth 100000 in
theorem lwA_8 : lwL_8.all lwq = true := by decide +kernel
theorem dW_742 : decode cL_law 742 = .ok (.lor, 1) := of_decide_eq_true (List.all_eq_true.mp lwA_8 (742, .lor, 1) (List.mem_of_getElem? (i := 0) rfl))
theorem dW_743 : decode cL_law 743 = .ok (.invokevirtual 90, 3) := of_decide_eq_true (List.all_eq_true.mp lwA_8 (743, .invokevirtual 90, 3) (List.mem_of_getElem? (i := 1) rfl))
theorem dW_746 : decode cL_law 746 = .ok (.pop, 1) := of_decide_eq_true (List.all_eq_true.mp lwA_8 (746, .pop, 1) (List.mem_of_getElem? (i := 2) rfl))
theorem dW_747 : decode cL_law 747 = .ok (.aload_n 2, 1) := of_decide_eq_true (List.all_eq_true.mp lwA_8 (747, .aload_n 2, 1) (List.mem_of_getElem? (i := 3) rfl))
theorem dW_748 : decode cL_law 748 = .ok (.aload_n 0, 1) := of_decide_eq_true (List.all_eq_true.mp lwA_8 (748, .aload_n 0, 1) (List.mem_of_getElem? (i := 4) rfl))
theorem dW_749 : decode cL_law 749 = .ok (.iload 4, 2) := of_decide_eq_true (List.all_eq_true.mp lwA_8 (749, .iload 4, 2) (List.mem_of_getElem? (i := 5) rfl))
theorem dW_751 : decode cL_law 751 = .ok (.iconst 1, 1) := of_decide_eq_true (List.all_eq_true.mp lwA_8 (751, .iconst 1, 1) (List.mem_of_getElem? (i := 6) rfl))
theorem dW_752 : decode cL_law 752 = .ok (.iadd, 1) := of_decide_eq_true (List.all_eq_true.mp lwA_8 (752, .iadd, 1) (List.mem_of_getElem? (i := 7) rfl))
theorem dW_753 : decode cL_law 753 = .ok (.iaload, 1) := of_decide_eq_true (List.all_eq_true.mp lwA_8 (753, .iaload, 1) (List.mem_of_getElem? (i := 8) rfl))
theorem dW_754 : decode cL_law 754 = .ok (.aload_n 0, 1) := of_decide_eq_true (List.all_eq_true.mp lwA_8 (754, .aload_n 0, 1) (List.mem_of_getElem? (i := 9) rfl))
theorem dW_755 : decode cL_law 755 = .ok (.iload 4, 2) := of_decide_eq_true (List.all_eq_true.mp lwA_8 (755, .iload 4, 2) (List.mem_of_getElem? (i := 10) rfl))
theorem dW_757 : decode cL_law 757 = .ok (.iconst 2, 1) := of_decide_eq_true (List.all_eq_true.mp lwA_8 (757, .iconst 2, 1) (List.mem_of_getElem? (i := 11) rfl))
theorem dW_758 : decode cL_law 758 = .ok (.iadd, 1) := of_decide_eq_true (List.all_eq_true.mp lwA_8 (758, .iadd, 1) (List.mem_of_getElem? (i := 12) rfl))
theorem dW_759 : decode cL_law 759 = .ok (.iaload, 1) := of_decide_eq_true (List.all_eq_true.mp lwA_8 (759, .iaload, 1) (List.mem_of_getElem? (i := 13) rfl))
theorem dW_760 : decode cL_law 760 = .ok (.i2l, 1) := of_decide_eq_true (List.all_eq_true.mp lwA_8 (760, .i2l, 1) (List.mem_of_getElem? (i := 14) rfl))
theorem dW_761 : decode cL_law 761 = .ok (.bipush 32, 2) := of_decide_eq_true (List.all_eq_true.mp lwA_8 (761, .bipush 32, 2) (List.mem_of_getElem? (i := 15) rfl))
theorem dW_763 : decode cL_law 763 = .ok (.lshl, 1) := of_decide_eq_true (List.all_eq_true.mp lwA_8 (763, .lshl, 1) (List.mem_of_getElem? (i := 16) rfl))
theorem dW_764 : decode cL_law 764 = .ok (.aload_n 0, 1) := of_decide_eq_true (List.all_eq_true.mp lwA_8 (764, .aload_n 0, 1) (List.mem_of_getElem? (i := 17) rfl))
theorem dW_765 : decode cL_law 765 = .ok (.iload 4, 2) := of_decide_eq_true (List.all_eq_true.mp lwA_8 (765, .iload 4, 2) (List.mem_of_getElem? (i := 18) rfl))
theorem dW_767 : decode cL_law 767 = .ok (.iconst 3, 1) := of_decide_eq_true (List.all_eq_true.mp lwA_8 (767, .iconst 3, 1) (List.mem_of_getElem? (i := 19) rfl))
theorem dW_768 : decode cL_law 768 = .ok (.iadd, 1) := of_decide_eq_true (List.all_eq_true.mp lwA_8 (768, .iadd, 1) (List.mem_of_getElem? (i := 20) rfl))
theorem dW_769 : decode cL_law 769 = .ok (.iaload, 1) := of_decide_eq_true (List.all_eq_true.mp lwA_8 (769, .iaload, 1) (List.mem_of_getElem? (i := 21) rfl))
theorem dW_770 : decode cL_law 770 = .ok (.i2l, 1) := of_decide_eq_true (List.all_eq_true.mp lwA_8 (770, .i2l, 1) (List.mem_of_getElem? (i := 22) rfl))
theorem dW_771 : decode cL_law 771 = .ok (.ldc2_w 88, 3) := of_decide_eq_true (List.all_eq_true.mp lwA_8 (771, .ldc2_w 88, 3) (List.mem_of_getElem? (i := 23) rfl))
theorem dW_774 : decode cL_law 774 = .ok (.land, 1) := of_decide_eq_true (List.all_eq_true.mp lwA_8 (774, .land, 1) (List.mem_of_getElem? (i := 24) rfl))
theorem dW_775 : decode cL_law 775 = .ok (.lor, 1) := of_decide_eq_true (List.all_eq_true.mp lwA_8 (775, .lor, 1) (List.mem_of_getElem? (i := 25) rfl))
theorem dW_776 : decode cL_law 776 = .ok (.invokevirtual 94, 3) := of_decide_eq_true (List.all_eq_true.mp lwA_8 (776, .invokevirtual 94, 3) (List.mem_of_getElem? (i := 26) rfl))
theorem dW_779 : decode cL_law 779 = .ok (.pop, 1) := of_decide_eq_true (List.all_eq_true.mp lwA_8 (779, .pop, 1) (List.mem_of_getElem? (i := 27) rfl))
theorem dW_780 : decode cL_law 780 = .ok (.goto 849, 3) := of_decide_eq_true (List.all_eq_true.mp lwA_8 (780, .goto 849, 3) (List.mem_of_getElem? (i := 28) rfl))
theorem dW_783 : decode cL_law 783 = .ok (.aload_n 1, 1) := of_decide_eq_true (List.all_eq_true.mp lwA_8 (783, .aload_n 1, 1) (List.mem_of_getElem? (i := 29) rfl))
theorem dW_784 : decode cL_law 784 = .ok (.invokevirtual 95, 3) := of_decide_eq_true (List.all_eq_true.mp lwA_8 (784, .invokevirtual 95, 3) (List.mem_of_getElem? (i := 30) rfl))
theorem dW_787 : decode cL_law 787 = .ok (.pop, 1) := of_decide_eq_true (List.all_eq_true.mp lwA_8 (787, .pop, 1) (List.mem_of_getElem? (i := 31) rfl))
theorem dW_788 : decode cL_law 788 = .ok (.aload_n 2, 1) := of_decide_eq_true (List.all_eq_true.mp lwA_8 (788, .aload_n 2, 1) (List.mem_of_getElem? (i := 32) rfl))
theorem dW_789 : decode cL_law 789 = .ok (.invokevirtual 98, 3) := of_decide_eq_true (List.all_eq_true.mp lwA_8 (789, .invokevirtual 98, 3) (List.mem_of_getElem? (i := 33) rfl))
theorem dW_792 : decode cL_law 792 = .ok (.pop, 1) := of_decide_eq_true (List.all_eq_true.mp lwA_8 (792, .pop, 1) (List.mem_of_getElem? (i := 34) rfl))
theorem dW_793 : decode cL_law 793 = .ok (.goto 836, 3) := of_decide_eq_true (List.all_eq_true.mp lwA_8 (793, .goto 836, 3) (List.mem_of_getElem? (i := 35) rfl))
theorem dW_796 : decode cL_law 796 = .ok (.aload_n 1, 1) := of_decide_eq_true (List.all_eq_true.mp lwA_8 (796, .aload_n 1, 1) (List.mem_of_getElem? (i := 36) rfl))
theorem dW_797 : decode cL_law 797 = .ok (.aload_n 0, 1) := of_decide_eq_true (List.all_eq_true.mp lwA_8 (797, .aload_n 0, 1) (List.mem_of_getElem? (i := 37) rfl))
theorem dW_798 : decode cL_law 798 = .ok (.iload 4, 2) := of_decide_eq_true (List.all_eq_true.mp lwA_8 (798, .iload 4, 2) (List.mem_of_getElem? (i := 38) rfl))
theorem dW_800 : decode cL_law 800 = .ok (.iconst 1, 1) := of_decide_eq_true (List.all_eq_true.mp lwA_8 (800, .iconst 1, 1) (List.mem_of_getElem? (i := 39) rfl))
def lwL_9 : List (Nat × Instr × Nat) := [(801, .iadd, 1), (802, .iaload, 1), (803, .aload_n 0, 1), (804, .iload 4, 2), (806, .iconst 2, 1), (807, .iadd, 1), (808, .iaload, 1), (809, .invokevirtual 99, 3), (812, .pop, 1), (813, .aload_n 2, 1), (814, .aload_n 0, 1), (815, .iload 4, 2), (817, .iconst 1, 1), (818, .iadd, 1), (819, .iaload, 1), (820, .aload_n 0, 1), (821, .iload 4, 2), (823, .iconst 2, 1), (824, .iadd, 1), (825, .iaload, 1), (826, .invokevirtual 102, 3), (829, .pop, 1), (830, .goto 799, 3), (833, .aload_n 1, 1), (834, .aload_n 0, 1), (835, .iload 4, 2), (837, .iconst 1, 1), (838, .iadd, 1), (839, .iaload, 1), (840, .aload_n 0, 1), (841, .iload 4, 2), (843, .iconst 2, 1), (844, .iadd, 1), (845, .iaload, 1), (846, .invokevirtual 103, 3), (849, .pop, 1), (850, .aload_n 2, 1), (851, .aload_n 0, 1), (852, .iload 4, 2), (854, .iconst 1, 1)]
set_option maxRecDepth 100000 in
theorem lwA_9 : lwL_9.all lwq = true := by decide +kernel
theorem dW_801 : decode cL_law 801 = .ok (.iadd, 1) := of_decide_eq_true (List.all_eq_true.mp lwA_9 (801, .iadd, 1) (List.mem_of_getElem? (i := 0) rfl))
theorem dW_802 : decode cL_law 802 = .ok (.iaload, 1) := of_decide_eq_true (List.all_eq_true.mp lwA_9 (802, .iaload, 1) (List.mem_of_getElem? (i := 1) rfl))
theorem dW_803 : decode cL_law 803 = .ok (.aload_n 0, 1) := of_decide_eq_true (List.all_eq_true.mp lwA_9 (803, .aload_n 0, 1) (List.mem_of_getElem? (i := 2) rfl))
theorem dW_804 : decode cL_law 804 = .ok (.iload 4, 2) := of_decide_eq_true (List.all_eq_true.mp lwA_9 (804, .iload 4, 2) (List.mem_of_getElem? (i := 3) rfl))
theorem dW_806 : decode cL_law 806 = .ok (.iconst 2, 1) := of_decide_eq_true (List.all_eq_true.mp lwA_9 (806, .iconst 2, 1) (List.mem_of_getElem? (i := 4) rfl))
theorem dW_807 : decode cL_law 807 = .ok (.iadd, 1) := of_decide_eq_true (List.all_eq_true.mp lwA_9 (807, .iadd, 1) (List.mem_of_getElem? (i := 5) rfl))
theorem dW_808 : decode cL_law 808 = .ok (.iaload, 1) := of_decide_eq_true (List.all_eq_true.mp lwA_9 (808, .iaload, 1) (List.mem_of_getElem? (i := 6) rfl))
theorem dW_809 : decode cL_law 809 = .ok (.invokevirtual 99, 3) := of_decide_eq_true (List.all_eq_true.mp lwA_9 (809, .invokevirtual 99, 3) (List.mem_of_getElem? (i := 7) rfl))
theorem dW_812 : decode cL_law 812 = .ok (.pop, 1) := of_decide_eq_true (List.all_eq_true.mp lwA_9 (812, .pop, 1) (List.mem_of_getElem? (i := 8) rfl))
theorem dW_813 : decode cL_law 813 = .ok (.aload_n 2, 1) := of_decide_eq_true (List.all_eq_true.mp lwA_9 (813, .aload_n 2, 1) (List.mem_of_getElem? (i := 9) rfl))
theorem dW_814 : decode cL_law 814 = .ok (.aload_n 0, 1) := of_decide_eq_true (List.all_eq_true.mp lwA_9 (814, .aload_n 0, 1) (List.mem_of_getElem? (i := 10) rfl))
theorem dW_815 : decode cL_law 815 = .ok (.iload 4, 2) := of_decide_eq_true (List.all_eq_true.mp lwA_9 (815, .iload 4, 2) (List.mem_of_getElem? (i := 11) rfl))
theorem dW_817 : decode cL_law 817 = .ok (.iconst 1, 1) := of_decide_eq_true (List.all_eq_true.mp lwA_9 (817, .iconst 1, 1) (List.mem_of_getElem? (i := 12) rfl))
theorem dW_818 : decode cL_law 818 = .ok (.iadd, 1) := of_decide_eq_true (List.all_eq_true.mp lwA_9 (818, .iadd, 1) (List.mem_of_getElem? (i := 13) rfl))
theorem dW_819 : decode cL_law 819 = .ok (.iaload, 1) := of_decide_eq_true (List.all_eq_true.mp lwA_9 (819, .iaload, 1) (List.mem_of_getElem? (i := 14) rfl))
theorem dW_820 : decode cL_law 820 = .ok (.aload_n 0, 1) := of_decide_eq_true (List.all_eq_true.mp lwA_9 (820, .aload_n 0, 1) (List.mem_of_getElem? (i := 15) rfl))
theorem dW_821 : decode cL_law 821 = .ok (.iload 4, 2) := of_decide_eq_true (List.all_eq_true.mp lwA_9 (821, .iload 4, 2) (List.mem_of_getElem? (i := 16) rfl))
theorem dW_823 : decode cL_law 823 = .ok (.iconst 2, 1) := of_decide_eq_true (List.all_eq_true.mp lwA_9 (823, .iconst 2, 1) (List.mem_of_getElem? (i := 17) rfl))
theorem dW_824 : decode cL_law 824 = .ok (.iadd, 1) := of_decide_eq_true (List.all_eq_true.mp lwA_9 (824, .iadd, 1) (List.mem_of_getElem? (i := 18) rfl))
theorem dW_825 : decode cL_law 825 = .ok (.iaload, 1) := of_decide_eq_true (List.all_eq_true.mp lwA_9 (825, .iaload, 1) (List.mem_of_getElem? (i := 19) rfl))
theorem dW_826 : decode cL_law 826 = .ok (.invokevirtual 102, 3) := of_decide_eq_true (List.all_eq_true.mp lwA_9 (826, .invokevirtual 102, 3) (List.mem_of_getElem? (i := 20) rfl))
theorem dW_829 : decode cL_law 829 = .ok (.pop, 1) := of_decide_eq_true (List.all_eq_true.mp lwA_9 (829, .pop, 1) (List.mem_of_getElem? (i := 21) rfl))
theorem dW_830 : decode cL_law 830 = .ok (.goto 799, 3) := of_decide_eq_true (List.all_eq_true.mp lwA_9 (830, .goto 799, 3) (List.mem_of_getElem? (i := 22) rfl))
theorem dW_833 : decode cL_law 833 = .ok (.aload_n 1, 1) := of_decide_eq_true (List.all_eq_true.mp lwA_9 (833, .aload_n 1, 1) (List.mem_of_getElem? (i := 23) rfl))
theorem dW_834 : decode cL_law 834 = .ok (.aload_n 0, 1) := of_decide_eq_true (List.all_eq_true.mp lwA_9 (834, .aload_n 0, 1) (List.mem_of_getElem? (i := 24) rfl))
theorem dW_835 : decode cL_law 835 = .ok (.iload 4, 2) := of_decide_eq_true (List.all_eq_true.mp lwA_9 (835, .iload 4, 2) (List.mem_of_getElem? (i := 25) rfl))
theorem dW_837 : decode cL_law 837 = .ok (.iconst 1, 1) := of_decide_eq_true (List.all_eq_true.mp lwA_9 (837, .iconst 1, 1) (List.mem_of_getElem? (i := 26) rfl))
theorem dW_838 : decode cL_law 838 = .ok (.iadd, 1) := of_decide_eq_true (List.all_eq_true.mp lwA_9 (838, .iadd, 1) (List.mem_of_getElem? (i := 27) rfl))
theorem dW_839 : decode cL_law 839 = .ok (.iaload, 1) := of_decide_eq_true (List.all_eq_true.mp lwA_9 (839, .iaload, 1) (List.mem_of_getElem? (i := 28) rfl))
theorem dW_840 : decode cL_law 840 = .ok (.aload_n 0, 1) := of_decide_eq_true (List.all_eq_true.mp lwA_9 (840, .aload_n 0, 1) (List.mem_of_getElem? (i := 29) rfl))
theorem dW_841 : decode cL_law 841 = .ok (.iload 4, 2) := of_decide_eq_true (List.all_eq_true.mp lwA_9 (841, .iload 4, 2) (List.mem_of_getElem? (i := 30) rfl))
theorem dW_843 : decode cL_law 843 = .ok (.iconst 2, 1) := of_decide_eq_true (List.all_eq_true.mp lwA_9 (843, .iconst 2, 1) (List.mem_of_getElem? (i := 31) rfl))
theorem dW_844 : decode cL_law 844 = .ok (.iadd, 1) := of_decide_eq_true (List.all_eq_true.mp lwA_9 (844, .iadd, 1) (List.mem_of_getElem? (i := 32) rfl))
theorem dW_845 : decode cL_law 845 = .ok (.iaload, 1) := of_decide_eq_true (List.all_eq_true.mp lwA_9 (845, .iaload, 1) (List.mem_of_getElem? (i := 33) rfl))
theorem dW_846 : decode cL_law 846 = .ok (.invokevirtual 103, 3) := of_decide_eq_true (List.all_eq_true.mp lwA_9 (846, .invokevirtual 103, 3) (List.mem_of_getElem? (i := 34) rfl))
theorem dW_849 : decode cL_law 849 = .ok (.pop, 1) := of_decide_eq_true (List.all_eq_true.mp lwA_9 (849, .pop, 1) (List.mem_of_getElem? (i := 35) rfl))
theorem dW_850 : decode cL_law 850 = .ok (.aload_n 2, 1) := of_decide_eq_true (List.all_eq_true.mp lwA_9 (850, .aload_n 2, 1) (List.mem_of_getElem? (i := 36) rfl))
theorem dW_851 : decode cL_law 851 = .ok (.aload_n 0, 1) := of_decide_eq_true (List.all_eq_true.mp lwA_9 (851, .aload_n 0, 1) (List.mem_of_getElem? (i := 37) rfl))
theorem dW_852 : decode cL_law 852 = .ok (.iload 4, 2) := of_decide_eq_true (List.all_eq_true.mp lwA_9 (852, .iload 4, 2) (List.mem_of_getElem? (i := 38) rfl))
theorem dW_854 : decode cL_law 854 = .ok (.iconst 1, 1) := of_decide_eq_true (List.all_eq_true.mp lwA_9 (854, .iconst 1, 1) (List.mem_of_getElem? (i := 39) rfl))
def lwL_10 : List (Nat × Instr × Nat) := [(855, .iadd, 1), (856, .iaload, 1), (857, .aload_n 0, 1), (858, .iload 4, 2), (860, .iconst 2, 1), (861, .iadd, 1), (862, .iaload, 1), (863, .invokevirtual 106, 3), (866, .pop, 1), (867, .goto 762, 3), (870, .aload_n 1, 1), (871, .aload_n 0, 1), (872, .iload 4, 2), (874, .iconst 1, 1), (875, .iadd, 1), (876, .iaload, 1), (877, .aload_n 0, 1), (878, .iload 4, 2), (880, .iconst 2, 1), (881, .iadd, 1), (882, .iaload, 1), (883, .invokevirtual 107, 3), (886, .pop, 1), (887, .aload_n 2, 1), (888, .aload_n 0, 1), (889, .iload 4, 2), (891, .iconst 1, 1), (892, .iadd, 1), (893, .iaload, 1), (894, .aload_n 0, 1), (895, .iload 4, 2), (897, .iconst 2, 1), (898, .iadd, 1), (899, .iaload, 1), (900, .invokevirtual 110, 3), (903, .pop, 1), (904, .goto 725, 3), (907, .aload_n 1, 1), (908, .aload_n 0, 1), (909, .iload 4, 2)]
set_option maxRecDepth 100000 in
theorem lwA_10 : lwL_10.all lwq = true := by decide +kernel
theorem dW_855 : decode cL_law 855 = .ok (.iadd, 1) := of_decide_eq_true (List.all_eq_true.mp lwA_10 (855, .iadd, 1) (List.mem_of_getElem? (i := 0) rfl))
theorem dW_856 : decode cL_law 856 = .ok (.iaload, 1) := of_decide_eq_true (List.all_eq_true.mp lwA_10 (856, .iaload, 1) (List.mem_of_getElem? (i := 1) rfl))
theorem dW_857 : decode cL_law 857 = .ok (.aload_n 0, 1) := of_decide_eq_true (List.all_eq_true.mp lwA_10 (857, .aload_n 0, 1) (List.mem_of_getElem? (i := 2) rfl))
theorem dW_858 : decode cL_law 858 = .ok (.iload 4, 2) := of_decide_eq_true (List.all_eq_true.mp lwA_10 (858, .iload 4, 2) (List.mem_of_getElem? (i := 3) rfl))
theorem dW_860 : decode cL_law 860 = .ok (.iconst 2, 1) := of_decide_eq_true (List.all_eq_true.mp lwA_10 (860, .iconst 2, 1) (List.mem_of_getElem? (i := 4) rfl))
theorem dW_861 : decode cL_law 861 = .ok (.iadd, 1) := of_decide_eq_true (List.all_eq_true.mp lwA_10 (861, .iadd, 1) (List.mem_of_getElem? (i := 5) rfl))
theorem dW_862 : decode cL_law 862 = .ok (.iaload, 1) := of_decide_eq_true (List.all_eq_true.mp lwA_10 (862, .iaload, 1) (List.mem_of_getElem? (i := 6) rfl))
theorem dW_863 : decode cL_law 863 = .ok (.invokevirtual 106, 3) := of_decide_eq_true (List.all_eq_true.mp lwA_10 (863, .invokevirtual 106, 3) (List.mem_of_getElem? (i := 7) rfl))
theorem dW_866 : decode cL_law 866 = .ok (.pop, 1) := of_decide_eq_true (List.all_eq_true.mp lwA_10 (866, .pop, 1) (List.mem_of_getElem? (i := 8) rfl))
theorem dW_867 : decode cL_law 867 = .ok (.goto 762, 3) := of_decide_eq_true (List.all_eq_true.mp lwA_10 (867, .goto 762, 3) (List.mem_of_getElem? (i := 9) rfl))
theorem dW_870 : decode cL_law 870 = .ok (.aload_n 1, 1) := of_decide_eq_true (List.all_eq_true.mp lwA_10 (870, .aload_n 1, 1) (List.mem_of_getElem? (i := 10) rfl))
theorem dW_871 : decode cL_law 871 = .ok (.aload_n 0, 1) := of_decide_eq_true (List.all_eq_true.mp lwA_10 (871, .aload_n 0, 1) (List.mem_of_getElem? (i := 11) rfl))
theorem dW_872 : decode cL_law 872 = .ok (.iload 4, 2) := of_decide_eq_true (List.all_eq_true.mp lwA_10 (872, .iload 4, 2) (List.mem_of_getElem? (i := 12) rfl))
theorem dW_874 : decode cL_law 874 = .ok (.iconst 1, 1) := of_decide_eq_true (List.all_eq_true.mp lwA_10 (874, .iconst 1, 1) (List.mem_of_getElem? (i := 13) rfl))
theorem dW_875 : decode cL_law 875 = .ok (.iadd, 1) := of_decide_eq_true (List.all_eq_true.mp lwA_10 (875, .iadd, 1) (List.mem_of_getElem? (i := 14) rfl))
theorem dW_876 : decode cL_law 876 = .ok (.iaload, 1) := of_decide_eq_true (List.all_eq_true.mp lwA_10 (876, .iaload, 1) (List.mem_of_getElem? (i := 15) rfl))
theorem dW_877 : decode cL_law 877 = .ok (.aload_n 0, 1) := of_decide_eq_true (List.all_eq_true.mp lwA_10 (877, .aload_n 0, 1) (List.mem_of_getElem? (i := 16) rfl))
theorem dW_878 : decode cL_law 878 = .ok (.iload 4, 2) := of_decide_eq_true (List.all_eq_true.mp lwA_10 (878, .iload 4, 2) (List.mem_of_getElem? (i := 17) rfl))
theorem dW_880 : decode cL_law 880 = .ok (.iconst 2, 1) := of_decide_eq_true (List.all_eq_true.mp lwA_10 (880, .iconst 2, 1) (List.mem_of_getElem? (i := 18) rfl))
theorem dW_881 : decode cL_law 881 = .ok (.iadd, 1) := of_decide_eq_true (List.all_eq_true.mp lwA_10 (881, .iadd, 1) (List.mem_of_getElem? (i := 19) rfl))
theorem dW_882 : decode cL_law 882 = .ok (.iaload, 1) := of_decide_eq_true (List.all_eq_true.mp lwA_10 (882, .iaload, 1) (List.mem_of_getElem? (i := 20) rfl))
theorem dW_883 : decode cL_law 883 = .ok (.invokevirtual 107, 3) := of_decide_eq_true (List.all_eq_true.mp lwA_10 (883, .invokevirtual 107, 3) (List.mem_of_getElem? (i := 21) rfl))
theorem dW_886 : decode cL_law 886 = .ok (.pop, 1) := of_decide_eq_true (List.all_eq_true.mp lwA_10 (886, .pop, 1) (List.mem_of_getElem? (i := 22) rfl))
theorem dW_887 : decode cL_law 887 = .ok (.aload_n 2, 1) := of_decide_eq_true (List.all_eq_true.mp lwA_10 (887, .aload_n 2, 1) (List.mem_of_getElem? (i := 23) rfl))
theorem dW_888 : decode cL_law 888 = .ok (.aload_n 0, 1) := of_decide_eq_true (List.all_eq_true.mp lwA_10 (888, .aload_n 0, 1) (List.mem_of_getElem? (i := 24) rfl))
theorem dW_889 : decode cL_law 889 = .ok (.iload 4, 2) := of_decide_eq_true (List.all_eq_true.mp lwA_10 (889, .iload 4, 2) (List.mem_of_getElem? (i := 25) rfl))
theorem dW_891 : decode cL_law 891 = .ok (.iconst 1, 1) := of_decide_eq_true (List.all_eq_true.mp lwA_10 (891, .iconst 1, 1) (List.mem_of_getElem? (i := 26) rfl))
theorem dW_892 : decode cL_law 892 = .ok (.iadd, 1) := of_decide_eq_true (List.all_eq_true.mp lwA_10 (892, .iadd, 1) (List.mem_of_getElem? (i := 27) rfl))
theorem dW_893 : decode cL_law 893 = .ok (.iaload, 1) := of_decide_eq_true (List.all_eq_true.mp lwA_10 (893, .iaload, 1) (List.mem_of_getElem? (i := 28) rfl))
theorem dW_894 : decode cL_law 894 = .ok (.aload_n 0, 1) := of_decide_eq_true (List.all_eq_true.mp lwA_10 (894, .aload_n 0, 1) (List.mem_of_getElem? (i := 29) rfl))
theorem dW_895 : decode cL_law 895 = .ok (.iload 4, 2) := of_decide_eq_true (List.all_eq_true.mp lwA_10 (895, .iload 4, 2) (List.mem_of_getElem? (i := 30) rfl))
theorem dW_897 : decode cL_law 897 = .ok (.iconst 2, 1) := of_decide_eq_true (List.all_eq_true.mp lwA_10 (897, .iconst 2, 1) (List.mem_of_getElem? (i := 31) rfl))
theorem dW_898 : decode cL_law 898 = .ok (.iadd, 1) := of_decide_eq_true (List.all_eq_true.mp lwA_10 (898, .iadd, 1) (List.mem_of_getElem? (i := 32) rfl))
theorem dW_899 : decode cL_law 899 = .ok (.iaload, 1) := of_decide_eq_true (List.all_eq_true.mp lwA_10 (899, .iaload, 1) (List.mem_of_getElem? (i := 33) rfl))
theorem dW_900 : decode cL_law 900 = .ok (.invokevirtual 110, 3) := of_decide_eq_true (List.all_eq_true.mp lwA_10 (900, .invokevirtual 110, 3) (List.mem_of_getElem? (i := 34) rfl))
theorem dW_903 : decode cL_law 903 = .ok (.pop, 1) := of_decide_eq_true (List.all_eq_true.mp lwA_10 (903, .pop, 1) (List.mem_of_getElem? (i := 35) rfl))
theorem dW_904 : decode cL_law 904 = .ok (.goto 725, 3) := of_decide_eq_true (List.all_eq_true.mp lwA_10 (904, .goto 725, 3) (List.mem_of_getElem? (i := 36) rfl))
theorem dW_907 : decode cL_law 907 = .ok (.aload_n 1, 1) := of_decide_eq_true (List.all_eq_true.mp lwA_10 (907, .aload_n 1, 1) (List.mem_of_getElem? (i := 37) rfl))
theorem dW_908 : decode cL_law 908 = .ok (.aload_n 0, 1) := of_decide_eq_true (List.all_eq_true.mp lwA_10 (908, .aload_n 0, 1) (List.mem_of_getElem? (i := 38) rfl))
theorem dW_909 : decode cL_law 909 = .ok (.iload 4, 2) := of_decide_eq_true (List.all_eq_true.mp lwA_10 (909, .iload 4, 2) (List.mem_of_getElem? (i := 39) rfl))
def lwL_11 : List (Nat × Instr × Nat) := [(911, .iconst 1, 1), (912, .iadd, 1), (913, .iaload, 1), (914, .aload_n 0, 1), (915, .iload 4, 2), (917, .iconst 2, 1), (918, .iadd, 1), (919, .iaload, 1), (920, .invokevirtual 111, 3), (923, .pop, 1), (924, .aload_n 2, 1), (925, .aload_n 0, 1), (926, .iload 4, 2), (928, .iconst 1, 1), (929, .iadd, 1), (930, .iaload, 1), (931, .aload_n 0, 1), (932, .iload 4, 2), (934, .iconst 2, 1), (935, .iadd, 1), (936, .iaload, 1), (937, .invokevirtual 114, 3), (940, .pop, 1), (941, .goto 688, 3), (944, .aload_n 1, 1), (945, .aload_n 0, 1), (946, .iload 4, 2), (948, .iconst 1, 1), (949, .iadd, 1), (950, .iaload, 1), (951, .aload_n 0, 1), (952, .iload 4, 2), (954, .iconst 2, 1), (955, .iadd, 1), (956, .iaload, 1), (957, .invokevirtual 115, 3), (960, .pop, 1), (961, .aload_n 2, 1), (962, .aload_n 0, 1), (963, .iload 4, 2)]
set_option maxRecDepth 100000 in
theorem lwA_11 : lwL_11.all lwq = true := by decide +kernel
theorem dW_911 : decode cL_law 911 = .ok (.iconst 1, 1) := of_decide_eq_true (List.all_eq_true.mp lwA_11 (911, .iconst 1, 1) (List.mem_of_getElem? (i := 0) rfl))
theorem dW_912 : decode cL_law 912 = .ok (.iadd, 1) := of_decide_eq_true (List.all_eq_true.mp lwA_11 (912, .iadd, 1) (List.mem_of_getElem? (i := 1) rfl))
theorem dW_913 : decode cL_law 913 = .ok (.iaload, 1) := of_decide_eq_true (List.all_eq_true.mp lwA_11 (913, .iaload, 1) (List.mem_of_getElem? (i := 2) rfl))
theorem dW_914 : decode cL_law 914 = .ok (.aload_n 0, 1) := of_decide_eq_true (List.all_eq_true.mp lwA_11 (914, .aload_n 0, 1) (List.mem_of_getElem? (i := 3) rfl))
theorem dW_915 : decode cL_law 915 = .ok (.iload 4, 2) := of_decide_eq_true (List.all_eq_true.mp lwA_11 (915, .iload 4, 2) (List.mem_of_getElem? (i := 4) rfl))
theorem dW_917 : decode cL_law 917 = .ok (.iconst 2, 1) := of_decide_eq_true (List.all_eq_true.mp lwA_11 (917, .iconst 2, 1) (List.mem_of_getElem? (i := 5) rfl))
theorem dW_918 : decode cL_law 918 = .ok (.iadd, 1) := of_decide_eq_true (List.all_eq_true.mp lwA_11 (918, .iadd, 1) (List.mem_of_getElem? (i := 6) rfl))
theorem dW_919 : decode cL_law 919 = .ok (.iaload, 1) := of_decide_eq_true (List.all_eq_true.mp lwA_11 (919, .iaload, 1) (List.mem_of_getElem? (i := 7) rfl))
theorem dW_920 : decode cL_law 920 = .ok (.invokevirtual 111, 3) := of_decide_eq_true (List.all_eq_true.mp lwA_11 (920, .invokevirtual 111, 3) (List.mem_of_getElem? (i := 8) rfl))
theorem dW_923 : decode cL_law 923 = .ok (.pop, 1) := of_decide_eq_true (List.all_eq_true.mp lwA_11 (923, .pop, 1) (List.mem_of_getElem? (i := 9) rfl))
theorem dW_924 : decode cL_law 924 = .ok (.aload_n 2, 1) := of_decide_eq_true (List.all_eq_true.mp lwA_11 (924, .aload_n 2, 1) (List.mem_of_getElem? (i := 10) rfl))
theorem dW_925 : decode cL_law 925 = .ok (.aload_n 0, 1) := of_decide_eq_true (List.all_eq_true.mp lwA_11 (925, .aload_n 0, 1) (List.mem_of_getElem? (i := 11) rfl))
theorem dW_926 : decode cL_law 926 = .ok (.iload 4, 2) := of_decide_eq_true (List.all_eq_true.mp lwA_11 (926, .iload 4, 2) (List.mem_of_getElem? (i := 12) rfl))
theorem dW_928 : decode cL_law 928 = .ok (.iconst 1, 1) := of_decide_eq_true (List.all_eq_true.mp lwA_11 (928, .iconst 1, 1) (List.mem_of_getElem? (i := 13) rfl))
theorem dW_929 : decode cL_law 929 = .ok (.iadd, 1) := of_decide_eq_true (List.all_eq_true.mp lwA_11 (929, .iadd, 1) (List.mem_of_getElem? (i := 14) rfl))
theorem dW_930 : decode cL_law 930 = .ok (.iaload, 1) := of_decide_eq_true (List.all_eq_true.mp lwA_11 (930, .iaload, 1) (List.mem_of_getElem? (i := 15) rfl))
theorem dW_931 : decode cL_law 931 = .ok (.aload_n 0, 1) := of_decide_eq_true (List.all_eq_true.mp lwA_11 (931, .aload_n 0, 1) (List.mem_of_getElem? (i := 16) rfl))
theorem dW_932 : decode cL_law 932 = .ok (.iload 4, 2) := of_decide_eq_true (List.all_eq_true.mp lwA_11 (932, .iload 4, 2) (List.mem_of_getElem? (i := 17) rfl))
theorem dW_934 : decode cL_law 934 = .ok (.iconst 2, 1) := of_decide_eq_true (List.all_eq_true.mp lwA_11 (934, .iconst 2, 1) (List.mem_of_getElem? (i := 18) rfl))
theorem dW_935 : decode cL_law 935 = .ok (.iadd, 1) := of_decide_eq_true (List.all_eq_true.mp lwA_11 (935, .iadd, 1) (List.mem_of_getElem? (i := 19) rfl))
theorem dW_936 : decode cL_law 936 = .ok (.iaload, 1) := of_decide_eq_true (List.all_eq_true.mp lwA_11 (936, .iaload, 1) (List.mem_of_getElem? (i := 20) rfl))
theorem dW_937 : decode cL_law 937 = .ok (.invokevirtual 114, 3) := of_decide_eq_true (List.all_eq_true.mp lwA_11 (937, .invokevirtual 114, 3) (List.mem_of_getElem? (i := 21) rfl))
theorem dW_940 : decode cL_law 940 = .ok (.pop, 1) := of_decide_eq_true (List.all_eq_true.mp lwA_11 (940, .pop, 1) (List.mem_of_getElem? (i := 22) rfl))
theorem dW_941 : decode cL_law 941 = .ok (.goto 688, 3) := of_decide_eq_true (List.all_eq_true.mp lwA_11 (941, .goto 688, 3) (List.mem_of_getElem? (i := 23) rfl))
theorem dW_944 : decode cL_law 944 = .ok (.aload_n 1, 1) := of_decide_eq_true (List.all_eq_true.mp lwA_11 (944, .aload_n 1, 1) (List.mem_of_getElem? (i := 24) rfl))
theorem dW_945 : decode cL_law 945 = .ok (.aload_n 0, 1) := of_decide_eq_true (List.all_eq_true.mp lwA_11 (945, .aload_n 0, 1) (List.mem_of_getElem? (i := 25) rfl))
theorem dW_946 : decode cL_law 946 = .ok (.iload 4, 2) := of_decide_eq_true (List.all_eq_true.mp lwA_11 (946, .iload 4, 2) (List.mem_of_getElem? (i := 26) rfl))
theorem dW_948 : decode cL_law 948 = .ok (.iconst 1, 1) := of_decide_eq_true (List.all_eq_true.mp lwA_11 (948, .iconst 1, 1) (List.mem_of_getElem? (i := 27) rfl))
theorem dW_949 : decode cL_law 949 = .ok (.iadd, 1) := of_decide_eq_true (List.all_eq_true.mp lwA_11 (949, .iadd, 1) (List.mem_of_getElem? (i := 28) rfl))
theorem dW_950 : decode cL_law 950 = .ok (.iaload, 1) := of_decide_eq_true (List.all_eq_true.mp lwA_11 (950, .iaload, 1) (List.mem_of_getElem? (i := 29) rfl))
theorem dW_951 : decode cL_law 951 = .ok (.aload_n 0, 1) := of_decide_eq_true (List.all_eq_true.mp lwA_11 (951, .aload_n 0, 1) (List.mem_of_getElem? (i := 30) rfl))
theorem dW_952 : decode cL_law 952 = .ok (.iload 4, 2) := of_decide_eq_true (List.all_eq_true.mp lwA_11 (952, .iload 4, 2) (List.mem_of_getElem? (i := 31) rfl))
theorem dW_954 : decode cL_law 954 = .ok (.iconst 2, 1) := of_decide_eq_true (List.all_eq_true.mp lwA_11 (954, .iconst 2, 1) (List.mem_of_getElem? (i := 32) rfl))
theorem dW_955 : decode cL_law 955 = .ok (.iadd, 1) := of_decide_eq_true (List.all_eq_true.mp lwA_11 (955, .iadd, 1) (List.mem_of_getElem? (i := 33) rfl))
theorem dW_956 : decode cL_law 956 = .ok (.iaload, 1) := of_decide_eq_true (List.all_eq_true.mp lwA_11 (956, .iaload, 1) (List.mem_of_getElem? (i := 34) rfl))
theorem dW_957 : decode cL_law 957 = .ok (.invokevirtual 115, 3) := of_decide_eq_true (List.all_eq_true.mp lwA_11 (957, .invokevirtual 115, 3) (List.mem_of_getElem? (i := 35) rfl))
theorem dW_960 : decode cL_law 960 = .ok (.pop, 1) := of_decide_eq_true (List.all_eq_true.mp lwA_11 (960, .pop, 1) (List.mem_of_getElem? (i := 36) rfl))
theorem dW_961 : decode cL_law 961 = .ok (.aload_n 2, 1) := of_decide_eq_true (List.all_eq_true.mp lwA_11 (961, .aload_n 2, 1) (List.mem_of_getElem? (i := 37) rfl))
theorem dW_962 : decode cL_law 962 = .ok (.aload_n 0, 1) := of_decide_eq_true (List.all_eq_true.mp lwA_11 (962, .aload_n 0, 1) (List.mem_of_getElem? (i := 38) rfl))
theorem dW_963 : decode cL_law 963 = .ok (.iload 4, 2) := of_decide_eq_true (List.all_eq_true.mp lwA_11 (963, .iload 4, 2) (List.mem_of_getElem? (i := 39) rfl))
def lwL_12 : List (Nat × Instr × Nat) := [(965, .iconst 1, 1), (966, .iadd, 1), (967, .iaload, 1), (968, .aload_n 0, 1), (969, .iload 4, 2), (971, .iconst 2, 1), (972, .iadd, 1), (973, .iaload, 1), (974, .invokevirtual 118, 3), (977, .pop, 1), (978, .goto 651, 3), (981, .aload_n 1, 1), (982, .aload_n 0, 1), (983, .iload 4, 2), (985, .iconst 1, 1), (986, .iadd, 1), (987, .iaload, 1), (988, .aload_n 0, 1), (989, .iload 4, 2), (991, .iconst 2, 1), (992, .iadd, 1), (993, .iaload, 1), (994, .invokevirtual 119, 3), (997, .pop, 1), (998, .aload_n 2, 1), (999, .aload_n 0, 1), (1000, .iload 4, 2), (1002, .iconst 1, 1), (1003, .iadd, 1), (1004, .iaload, 1), (1005, .aload_n 0, 1), (1006, .iload 4, 2), (1008, .iconst 2, 1), (1009, .iadd, 1), (1010, .iaload, 1), (1011, .invokevirtual 122, 3), (1014, .pop, 1), (1015, .goto 614, 3), (1018, .aload_n 1, 1), (1019, .aload_n 0, 1)]
set_option maxRecDepth 100000 in
theorem lwA_12 : lwL_12.all lwq = true := by decide +kernel
theorem dW_965 : decode cL_law 965 = .ok (.iconst 1, 1) := of_decide_eq_true (List.all_eq_true.mp lwA_12 (965, .iconst 1, 1) (List.mem_of_getElem? (i := 0) rfl))
theorem dW_966 : decode cL_law 966 = .ok (.iadd, 1) := of_decide_eq_true (List.all_eq_true.mp lwA_12 (966, .iadd, 1) (List.mem_of_getElem? (i := 1) rfl))
theorem dW_967 : decode cL_law 967 = .ok (.iaload, 1) := of_decide_eq_true (List.all_eq_true.mp lwA_12 (967, .iaload, 1) (List.mem_of_getElem? (i := 2) rfl))
theorem dW_968 : decode cL_law 968 = .ok (.aload_n 0, 1) := of_decide_eq_true (List.all_eq_true.mp lwA_12 (968, .aload_n 0, 1) (List.mem_of_getElem? (i := 3) rfl))
theorem dW_969 : decode cL_law 969 = .ok (.iload 4, 2) := of_decide_eq_true (List.all_eq_true.mp lwA_12 (969, .iload 4, 2) (List.mem_of_getElem? (i := 4) rfl))
theorem dW_971 : decode cL_law 971 = .ok (.iconst 2, 1) := of_decide_eq_true (List.all_eq_true.mp lwA_12 (971, .iconst 2, 1) (List.mem_of_getElem? (i := 5) rfl))
theorem dW_972 : decode cL_law 972 = .ok (.iadd, 1) := of_decide_eq_true (List.all_eq_true.mp lwA_12 (972, .iadd, 1) (List.mem_of_getElem? (i := 6) rfl))
theorem dW_973 : decode cL_law 973 = .ok (.iaload, 1) := of_decide_eq_true (List.all_eq_true.mp lwA_12 (973, .iaload, 1) (List.mem_of_getElem? (i := 7) rfl))
theorem dW_974 : decode cL_law 974 = .ok (.invokevirtual 118, 3) := of_decide_eq_true (List.all_eq_true.mp lwA_12 (974, .invokevirtual 118, 3) (List.mem_of_getElem? (i := 8) rfl))
theorem dW_977 : decode cL_law 977 = .ok (.pop, 1) := of_decide_eq_true (List.all_eq_true.mp lwA_12 (977, .pop, 1) (List.mem_of_getElem? (i := 9) rfl))
theorem dW_978 : decode cL_law 978 = .ok (.goto 651, 3) := of_decide_eq_true (List.all_eq_true.mp lwA_12 (978, .goto 651, 3) (List.mem_of_getElem? (i := 10) rfl))
theorem dW_981 : decode cL_law 981 = .ok (.aload_n 1, 1) := of_decide_eq_true (List.all_eq_true.mp lwA_12 (981, .aload_n 1, 1) (List.mem_of_getElem? (i := 11) rfl))
theorem dW_982 : decode cL_law 982 = .ok (.aload_n 0, 1) := of_decide_eq_true (List.all_eq_true.mp lwA_12 (982, .aload_n 0, 1) (List.mem_of_getElem? (i := 12) rfl))
theorem dW_983 : decode cL_law 983 = .ok (.iload 4, 2) := of_decide_eq_true (List.all_eq_true.mp lwA_12 (983, .iload 4, 2) (List.mem_of_getElem? (i := 13) rfl))
theorem dW_985 : decode cL_law 985 = .ok (.iconst 1, 1) := of_decide_eq_true (List.all_eq_true.mp lwA_12 (985, .iconst 1, 1) (List.mem_of_getElem? (i := 14) rfl))
theorem dW_986 : decode cL_law 986 = .ok (.iadd, 1) := of_decide_eq_true (List.all_eq_true.mp lwA_12 (986, .iadd, 1) (List.mem_of_getElem? (i := 15) rfl))
theorem dW_987 : decode cL_law 987 = .ok (.iaload, 1) := of_decide_eq_true (List.all_eq_true.mp lwA_12 (987, .iaload, 1) (List.mem_of_getElem? (i := 16) rfl))
theorem dW_988 : decode cL_law 988 = .ok (.aload_n 0, 1) := of_decide_eq_true (List.all_eq_true.mp lwA_12 (988, .aload_n 0, 1) (List.mem_of_getElem? (i := 17) rfl))
theorem dW_989 : decode cL_law 989 = .ok (.iload 4, 2) := of_decide_eq_true (List.all_eq_true.mp lwA_12 (989, .iload 4, 2) (List.mem_of_getElem? (i := 18) rfl))
theorem dW_991 : decode cL_law 991 = .ok (.iconst 2, 1) := of_decide_eq_true (List.all_eq_true.mp lwA_12 (991, .iconst 2, 1) (List.mem_of_getElem? (i := 19) rfl))
theorem dW_992 : decode cL_law 992 = .ok (.iadd, 1) := of_decide_eq_true (List.all_eq_true.mp lwA_12 (992, .iadd, 1) (List.mem_of_getElem? (i := 20) rfl))
theorem dW_993 : decode cL_law 993 = .ok (.iaload, 1) := of_decide_eq_true (List.all_eq_true.mp lwA_12 (993, .iaload, 1) (List.mem_of_getElem? (i := 21) rfl))
theorem dW_994 : decode cL_law 994 = .ok (.invokevirtual 119, 3) := of_decide_eq_true (List.all_eq_true.mp lwA_12 (994, .invokevirtual 119, 3) (List.mem_of_getElem? (i := 22) rfl))
theorem dW_997 : decode cL_law 997 = .ok (.pop, 1) := of_decide_eq_true (List.all_eq_true.mp lwA_12 (997, .pop, 1) (List.mem_of_getElem? (i := 23) rfl))
theorem dW_998 : decode cL_law 998 = .ok (.aload_n 2, 1) := of_decide_eq_true (List.all_eq_true.mp lwA_12 (998, .aload_n 2, 1) (List.mem_of_getElem? (i := 24) rfl))
theorem dW_999 : decode cL_law 999 = .ok (.aload_n 0, 1) := of_decide_eq_true (List.all_eq_true.mp lwA_12 (999, .aload_n 0, 1) (List.mem_of_getElem? (i := 25) rfl))
theorem dW_1000 : decode cL_law 1000 = .ok (.iload 4, 2) := of_decide_eq_true (List.all_eq_true.mp lwA_12 (1000, .iload 4, 2) (List.mem_of_getElem? (i := 26) rfl))
theorem dW_1002 : decode cL_law 1002 = .ok (.iconst 1, 1) := of_decide_eq_true (List.all_eq_true.mp lwA_12 (1002, .iconst 1, 1) (List.mem_of_getElem? (i := 27) rfl))
theorem dW_1003 : decode cL_law 1003 = .ok (.iadd, 1) := of_decide_eq_true (List.all_eq_true.mp lwA_12 (1003, .iadd, 1) (List.mem_of_getElem? (i := 28) rfl))
theorem dW_1004 : decode cL_law 1004 = .ok (.iaload, 1) := of_decide_eq_true (List.all_eq_true.mp lwA_12 (1004, .iaload, 1) (List.mem_of_getElem? (i := 29) rfl))
theorem dW_1005 : decode cL_law 1005 = .ok (.aload_n 0, 1) := of_decide_eq_true (List.all_eq_true.mp lwA_12 (1005, .aload_n 0, 1) (List.mem_of_getElem? (i := 30) rfl))
theorem dW_1006 : decode cL_law 1006 = .ok (.iload 4, 2) := of_decide_eq_true (List.all_eq_true.mp lwA_12 (1006, .iload 4, 2) (List.mem_of_getElem? (i := 31) rfl))
theorem dW_1008 : decode cL_law 1008 = .ok (.iconst 2, 1) := of_decide_eq_true (List.all_eq_true.mp lwA_12 (1008, .iconst 2, 1) (List.mem_of_getElem? (i := 32) rfl))
theorem dW_1009 : decode cL_law 1009 = .ok (.iadd, 1) := of_decide_eq_true (List.all_eq_true.mp lwA_12 (1009, .iadd, 1) (List.mem_of_getElem? (i := 33) rfl))
theorem dW_1010 : decode cL_law 1010 = .ok (.iaload, 1) := of_decide_eq_true (List.all_eq_true.mp lwA_12 (1010, .iaload, 1) (List.mem_of_getElem? (i := 34) rfl))
theorem dW_1011 : decode cL_law 1011 = .ok (.invokevirtual 122, 3) := of_decide_eq_true (List.all_eq_true.mp lwA_12 (1011, .invokevirtual 122, 3) (List.mem_of_getElem? (i := 35) rfl))
theorem dW_1014 : decode cL_law 1014 = .ok (.pop, 1) := of_decide_eq_true (List.all_eq_true.mp lwA_12 (1014, .pop, 1) (List.mem_of_getElem? (i := 36) rfl))
theorem dW_1015 : decode cL_law 1015 = .ok (.goto 614, 3) := of_decide_eq_true (List.all_eq_true.mp lwA_12 (1015, .goto 614, 3) (List.mem_of_getElem? (i := 37) rfl))
theorem dW_1018 : decode cL_law 1018 = .ok (.aload_n 1, 1) := of_decide_eq_true (List.all_eq_true.mp lwA_12 (1018, .aload_n 1, 1) (List.mem_of_getElem? (i := 38) rfl))
theorem dW_1019 : decode cL_law 1019 = .ok (.aload_n 0, 1) := of_decide_eq_true (List.all_eq_true.mp lwA_12 (1019, .aload_n 0, 1) (List.mem_of_getElem? (i := 39) rfl))
def lwL_13 : List (Nat × Instr × Nat) := [(1020, .iload 4, 2), (1022, .iconst 1, 1), (1023, .iadd, 1), (1024, .iaload, 1), (1025, .invokevirtual 123, 3), (1028, .pop, 1), (1029, .aload_n 2, 1), (1030, .aload_n 0, 1), (1031, .iload 4, 2), (1033, .iconst 1, 1), (1034, .iadd, 1), (1035, .iaload, 1), (1036, .invokevirtual 126, 3), (1039, .pop, 1), (1040, .goto 589, 3), (1043, .aload_n 1, 1), (1044, .aload_n 0, 1), (1045, .iload 4, 2), (1047, .iconst 1, 1), (1048, .iadd, 1), (1049, .iaload, 1), (1050, .aload_n 0, 1), (1051, .iload 4, 2), (1053, .iconst 2, 1), (1054, .iadd, 1), (1055, .iaload, 1), (1056, .invokevirtual 127, 3), (1059, .pop, 1), (1060, .aload_n 2, 1), (1061, .aload_n 0, 1), (1062, .iload 4, 2), (1064, .iconst 1, 1), (1065, .iadd, 1), (1066, .iaload, 1), (1067, .aload_n 0, 1), (1068, .iload 4, 2), (1070, .iconst 2, 1), (1071, .iadd, 1), (1072, .iaload, 1), (1073, .invokevirtual 130, 3)]
set_option maxRecDepth 100000 in
theorem lwA_13 : lwL_13.all lwq = true := by decide +kernel
theorem dW_1020 : decode cL_law 1020 = .ok (.iload 4, 2) := of_decide_eq_true (List.all_eq_true.mp lwA_13 (1020, .iload 4, 2) (List.mem_of_getElem? (i := 0) rfl))
theorem dW_1022 : decode cL_law 1022 = .ok (.iconst 1, 1) := of_decide_eq_true (List.all_eq_true.mp lwA_13 (1022, .iconst 1, 1) (List.mem_of_getElem? (i := 1) rfl))
theorem dW_1023 : decode cL_law 1023 = .ok (.iadd, 1) := of_decide_eq_true (List.all_eq_true.mp lwA_13 (1023, .iadd, 1) (List.mem_of_getElem? (i := 2) rfl))
theorem dW_1024 : decode cL_law 1024 = .ok (.iaload, 1) := of_decide_eq_true (List.all_eq_true.mp lwA_13 (1024, .iaload, 1) (List.mem_of_getElem? (i := 3) rfl))
theorem dW_1025 : decode cL_law 1025 = .ok (.invokevirtual 123, 3) := of_decide_eq_true (List.all_eq_true.mp lwA_13 (1025, .invokevirtual 123, 3) (List.mem_of_getElem? (i := 4) rfl))
theorem dW_1028 : decode cL_law 1028 = .ok (.pop, 1) := of_decide_eq_true (List.all_eq_true.mp lwA_13 (1028, .pop, 1) (List.mem_of_getElem? (i := 5) rfl))
theorem dW_1029 : decode cL_law 1029 = .ok (.aload_n 2, 1) := of_decide_eq_true (List.all_eq_true.mp lwA_13 (1029, .aload_n 2, 1) (List.mem_of_getElem? (i := 6) rfl))
theorem dW_1030 : decode cL_law 1030 = .ok (.aload_n 0, 1) := of_decide_eq_true (List.all_eq_true.mp lwA_13 (1030, .aload_n 0, 1) (List.mem_of_getElem? (i := 7) rfl))
theorem dW_1031 : decode cL_law 1031 = .ok (.iload 4, 2) := of_decide_eq_true (List.all_eq_true.mp lwA_13 (1031, .iload 4, 2) (List.mem_of_getElem? (i := 8) rfl))
theorem dW_1033 : decode cL_law 1033 = .ok (.iconst 1, 1) := of_decide_eq_true (List.all_eq_true.mp lwA_13 (1033, .iconst 1, 1) (List.mem_of_getElem? (i := 9) rfl))
theorem dW_1034 : decode cL_law 1034 = .ok (.iadd, 1) := of_decide_eq_true (List.all_eq_true.mp lwA_13 (1034, .iadd, 1) (List.mem_of_getElem? (i := 10) rfl))
theorem dW_1035 : decode cL_law 1035 = .ok (.iaload, 1) := of_decide_eq_true (List.all_eq_true.mp lwA_13 (1035, .iaload, 1) (List.mem_of_getElem? (i := 11) rfl))
theorem dW_1036 : decode cL_law 1036 = .ok (.invokevirtual 126, 3) := of_decide_eq_true (List.all_eq_true.mp lwA_13 (1036, .invokevirtual 126, 3) (List.mem_of_getElem? (i := 12) rfl))
theorem dW_1039 : decode cL_law 1039 = .ok (.pop, 1) := of_decide_eq_true (List.all_eq_true.mp lwA_13 (1039, .pop, 1) (List.mem_of_getElem? (i := 13) rfl))
theorem dW_1040 : decode cL_law 1040 = .ok (.goto 589, 3) := of_decide_eq_true (List.all_eq_true.mp lwA_13 (1040, .goto 589, 3) (List.mem_of_getElem? (i := 14) rfl))
theorem dW_1043 : decode cL_law 1043 = .ok (.aload_n 1, 1) := of_decide_eq_true (List.all_eq_true.mp lwA_13 (1043, .aload_n 1, 1) (List.mem_of_getElem? (i := 15) rfl))
theorem dW_1044 : decode cL_law 1044 = .ok (.aload_n 0, 1) := of_decide_eq_true (List.all_eq_true.mp lwA_13 (1044, .aload_n 0, 1) (List.mem_of_getElem? (i := 16) rfl))
theorem dW_1045 : decode cL_law 1045 = .ok (.iload 4, 2) := of_decide_eq_true (List.all_eq_true.mp lwA_13 (1045, .iload 4, 2) (List.mem_of_getElem? (i := 17) rfl))
theorem dW_1047 : decode cL_law 1047 = .ok (.iconst 1, 1) := of_decide_eq_true (List.all_eq_true.mp lwA_13 (1047, .iconst 1, 1) (List.mem_of_getElem? (i := 18) rfl))
theorem dW_1048 : decode cL_law 1048 = .ok (.iadd, 1) := of_decide_eq_true (List.all_eq_true.mp lwA_13 (1048, .iadd, 1) (List.mem_of_getElem? (i := 19) rfl))
theorem dW_1049 : decode cL_law 1049 = .ok (.iaload, 1) := of_decide_eq_true (List.all_eq_true.mp lwA_13 (1049, .iaload, 1) (List.mem_of_getElem? (i := 20) rfl))
theorem dW_1050 : decode cL_law 1050 = .ok (.aload_n 0, 1) := of_decide_eq_true (List.all_eq_true.mp lwA_13 (1050, .aload_n 0, 1) (List.mem_of_getElem? (i := 21) rfl))
theorem dW_1051 : decode cL_law 1051 = .ok (.iload 4, 2) := of_decide_eq_true (List.all_eq_true.mp lwA_13 (1051, .iload 4, 2) (List.mem_of_getElem? (i := 22) rfl))
theorem dW_1053 : decode cL_law 1053 = .ok (.iconst 2, 1) := of_decide_eq_true (List.all_eq_true.mp lwA_13 (1053, .iconst 2, 1) (List.mem_of_getElem? (i := 23) rfl))
theorem dW_1054 : decode cL_law 1054 = .ok (.iadd, 1) := of_decide_eq_true (List.all_eq_true.mp lwA_13 (1054, .iadd, 1) (List.mem_of_getElem? (i := 24) rfl))
theorem dW_1055 : decode cL_law 1055 = .ok (.iaload, 1) := of_decide_eq_true (List.all_eq_true.mp lwA_13 (1055, .iaload, 1) (List.mem_of_getElem? (i := 25) rfl))
theorem dW_1056 : decode cL_law 1056 = .ok (.invokevirtual 127, 3) := of_decide_eq_true (List.all_eq_true.mp lwA_13 (1056, .invokevirtual 127, 3) (List.mem_of_getElem? (i := 26) rfl))
theorem dW_1059 : decode cL_law 1059 = .ok (.pop, 1) := of_decide_eq_true (List.all_eq_true.mp lwA_13 (1059, .pop, 1) (List.mem_of_getElem? (i := 27) rfl))
theorem dW_1060 : decode cL_law 1060 = .ok (.aload_n 2, 1) := of_decide_eq_true (List.all_eq_true.mp lwA_13 (1060, .aload_n 2, 1) (List.mem_of_getElem? (i := 28) rfl))
theorem dW_1061 : decode cL_law 1061 = .ok (.aload_n 0, 1) := of_decide_eq_true (List.all_eq_true.mp lwA_13 (1061, .aload_n 0, 1) (List.mem_of_getElem? (i := 29) rfl))
theorem dW_1062 : decode cL_law 1062 = .ok (.iload 4, 2) := of_decide_eq_true (List.all_eq_true.mp lwA_13 (1062, .iload 4, 2) (List.mem_of_getElem? (i := 30) rfl))
theorem dW_1064 : decode cL_law 1064 = .ok (.iconst 1, 1) := of_decide_eq_true (List.all_eq_true.mp lwA_13 (1064, .iconst 1, 1) (List.mem_of_getElem? (i := 31) rfl))
theorem dW_1065 : decode cL_law 1065 = .ok (.iadd, 1) := of_decide_eq_true (List.all_eq_true.mp lwA_13 (1065, .iadd, 1) (List.mem_of_getElem? (i := 32) rfl))
theorem dW_1066 : decode cL_law 1066 = .ok (.iaload, 1) := of_decide_eq_true (List.all_eq_true.mp lwA_13 (1066, .iaload, 1) (List.mem_of_getElem? (i := 33) rfl))
theorem dW_1067 : decode cL_law 1067 = .ok (.aload_n 0, 1) := of_decide_eq_true (List.all_eq_true.mp lwA_13 (1067, .aload_n 0, 1) (List.mem_of_getElem? (i := 34) rfl))
theorem dW_1068 : decode cL_law 1068 = .ok (.iload 4, 2) := of_decide_eq_true (List.all_eq_true.mp lwA_13 (1068, .iload 4, 2) (List.mem_of_getElem? (i := 35) rfl))
theorem dW_1070 : decode cL_law 1070 = .ok (.iconst 2, 1) := of_decide_eq_true (List.all_eq_true.mp lwA_13 (1070, .iconst 2, 1) (List.mem_of_getElem? (i := 36) rfl))
theorem dW_1071 : decode cL_law 1071 = .ok (.iadd, 1) := of_decide_eq_true (List.all_eq_true.mp lwA_13 (1071, .iadd, 1) (List.mem_of_getElem? (i := 37) rfl))
theorem dW_1072 : decode cL_law 1072 = .ok (.iaload, 1) := of_decide_eq_true (List.all_eq_true.mp lwA_13 (1072, .iaload, 1) (List.mem_of_getElem? (i := 38) rfl))
theorem dW_1073 : decode cL_law 1073 = .ok (.invokevirtual 130, 3) := of_decide_eq_true (List.all_eq_true.mp lwA_13 (1073, .invokevirtual 130, 3) (List.mem_of_getElem? (i := 39) rfl))
def lwL_14 : List (Nat × Instr × Nat) := [(1076, .pop, 1), (1077, .goto 552, 3), (1080, .aload_n 1, 1), (1081, .aload_n 0, 1), (1082, .iload 4, 2), (1084, .iconst 1, 1), (1085, .iadd, 1), (1086, .iaload, 1), (1087, .aload_n 0, 1), (1088, .iload 4, 2), (1090, .iconst 2, 1), (1091, .iadd, 1), (1092, .iaload, 1), (1093, .ifCond .eq 7, 3), (1096, .iconst 1, 1), (1097, .goto 4, 3), (1100, .iconst 0, 1), (1101, .invokevirtual 131, 3), (1104, .pop, 1), (1105, .aload_n 2, 1), (1106, .aload_n 0, 1), (1107, .iload 4, 2), (1109, .iconst 1, 1), (1110, .iadd, 1), (1111, .iaload, 1), (1112, .aload_n 0, 1), (1113, .iload 4, 2), (1115, .iconst 2, 1), (1116, .iadd, 1), (1117, .iaload, 1), (1118, .ifCond .eq 7, 3), (1121, .iconst 1, 1), (1122, .goto 4, 3), (1125, .iconst 0, 1), (1126, .invokevirtual 135, 3), (1129, .pop, 1), (1130, .goto 499, 3), (1133, .aload_n 1, 1), (1134, .aload_n 0, 1), (1135, .iload 4, 2)]
set_option maxRecDepth 100000 in
theorem lwA_14 : lwL_14.all lwq = true := by decide +kernel
theorem dW_1076 : decode cL_law 1076 = .ok (.pop, 1) := of_decide_eq_true (List.all_eq_true.mp lwA_14 (1076, .pop, 1) (List.mem_of_getElem? (i := 0) rfl))
theorem dW_1077 : decode cL_law 1077 = .ok (.goto 552, 3) := of_decide_eq_true (List.all_eq_true.mp lwA_14 (1077, .goto 552, 3) (List.mem_of_getElem? (i := 1) rfl))
theorem dW_1080 : decode cL_law 1080 = .ok (.aload_n 1, 1) := of_decide_eq_true (List.all_eq_true.mp lwA_14 (1080, .aload_n 1, 1) (List.mem_of_getElem? (i := 2) rfl))
theorem dW_1081 : decode cL_law 1081 = .ok (.aload_n 0, 1) := of_decide_eq_true (List.all_eq_true.mp lwA_14 (1081, .aload_n 0, 1) (List.mem_of_getElem? (i := 3) rfl))
theorem dW_1082 : decode cL_law 1082 = .ok (.iload 4, 2) := of_decide_eq_true (List.all_eq_true.mp lwA_14 (1082, .iload 4, 2) (List.mem_of_getElem? (i := 4) rfl))
theorem dW_1084 : decode cL_law 1084 = .ok (.iconst 1, 1) := of_decide_eq_true (List.all_eq_true.mp lwA_14 (1084, .iconst 1, 1) (List.mem_of_getElem? (i := 5) rfl))
theorem dW_1085 : decode cL_law 1085 = .ok (.iadd, 1) := of_decide_eq_true (List.all_eq_true.mp lwA_14 (1085, .iadd, 1) (List.mem_of_getElem? (i := 6) rfl))
theorem dW_1086 : decode cL_law 1086 = .ok (.iaload, 1) := of_decide_eq_true (List.all_eq_true.mp lwA_14 (1086, .iaload, 1) (List.mem_of_getElem? (i := 7) rfl))
theorem dW_1087 : decode cL_law 1087 = .ok (.aload_n 0, 1) := of_decide_eq_true (List.all_eq_true.mp lwA_14 (1087, .aload_n 0, 1) (List.mem_of_getElem? (i := 8) rfl))
theorem dW_1088 : decode cL_law 1088 = .ok (.iload 4, 2) := of_decide_eq_true (List.all_eq_true.mp lwA_14 (1088, .iload 4, 2) (List.mem_of_getElem? (i := 9) rfl))
theorem dW_1090 : decode cL_law 1090 = .ok (.iconst 2, 1) := of_decide_eq_true (List.all_eq_true.mp lwA_14 (1090, .iconst 2, 1) (List.mem_of_getElem? (i := 10) rfl))
theorem dW_1091 : decode cL_law 1091 = .ok (.iadd, 1) := of_decide_eq_true (List.all_eq_true.mp lwA_14 (1091, .iadd, 1) (List.mem_of_getElem? (i := 11) rfl))
theorem dW_1092 : decode cL_law 1092 = .ok (.iaload, 1) := of_decide_eq_true (List.all_eq_true.mp lwA_14 (1092, .iaload, 1) (List.mem_of_getElem? (i := 12) rfl))
theorem dW_1093 : decode cL_law 1093 = .ok (.ifCond .eq 7, 3) := of_decide_eq_true (List.all_eq_true.mp lwA_14 (1093, .ifCond .eq 7, 3) (List.mem_of_getElem? (i := 13) rfl))
theorem dW_1096 : decode cL_law 1096 = .ok (.iconst 1, 1) := of_decide_eq_true (List.all_eq_true.mp lwA_14 (1096, .iconst 1, 1) (List.mem_of_getElem? (i := 14) rfl))
theorem dW_1097 : decode cL_law 1097 = .ok (.goto 4, 3) := of_decide_eq_true (List.all_eq_true.mp lwA_14 (1097, .goto 4, 3) (List.mem_of_getElem? (i := 15) rfl))
theorem dW_1100 : decode cL_law 1100 = .ok (.iconst 0, 1) := of_decide_eq_true (List.all_eq_true.mp lwA_14 (1100, .iconst 0, 1) (List.mem_of_getElem? (i := 16) rfl))
theorem dW_1101 : decode cL_law 1101 = .ok (.invokevirtual 131, 3) := of_decide_eq_true (List.all_eq_true.mp lwA_14 (1101, .invokevirtual 131, 3) (List.mem_of_getElem? (i := 17) rfl))
theorem dW_1104 : decode cL_law 1104 = .ok (.pop, 1) := of_decide_eq_true (List.all_eq_true.mp lwA_14 (1104, .pop, 1) (List.mem_of_getElem? (i := 18) rfl))
theorem dW_1105 : decode cL_law 1105 = .ok (.aload_n 2, 1) := of_decide_eq_true (List.all_eq_true.mp lwA_14 (1105, .aload_n 2, 1) (List.mem_of_getElem? (i := 19) rfl))
theorem dW_1106 : decode cL_law 1106 = .ok (.aload_n 0, 1) := of_decide_eq_true (List.all_eq_true.mp lwA_14 (1106, .aload_n 0, 1) (List.mem_of_getElem? (i := 20) rfl))
theorem dW_1107 : decode cL_law 1107 = .ok (.iload 4, 2) := of_decide_eq_true (List.all_eq_true.mp lwA_14 (1107, .iload 4, 2) (List.mem_of_getElem? (i := 21) rfl))
theorem dW_1109 : decode cL_law 1109 = .ok (.iconst 1, 1) := of_decide_eq_true (List.all_eq_true.mp lwA_14 (1109, .iconst 1, 1) (List.mem_of_getElem? (i := 22) rfl))
theorem dW_1110 : decode cL_law 1110 = .ok (.iadd, 1) := of_decide_eq_true (List.all_eq_true.mp lwA_14 (1110, .iadd, 1) (List.mem_of_getElem? (i := 23) rfl))
theorem dW_1111 : decode cL_law 1111 = .ok (.iaload, 1) := of_decide_eq_true (List.all_eq_true.mp lwA_14 (1111, .iaload, 1) (List.mem_of_getElem? (i := 24) rfl))
theorem dW_1112 : decode cL_law 1112 = .ok (.aload_n 0, 1) := of_decide_eq_true (List.all_eq_true.mp lwA_14 (1112, .aload_n 0, 1) (List.mem_of_getElem? (i := 25) rfl))
theorem dW_1113 : decode cL_law 1113 = .ok (.iload 4, 2) := of_decide_eq_true (List.all_eq_true.mp lwA_14 (1113, .iload 4, 2) (List.mem_of_getElem? (i := 26) rfl))
theorem dW_1115 : decode cL_law 1115 = .ok (.iconst 2, 1) := of_decide_eq_true (List.all_eq_true.mp lwA_14 (1115, .iconst 2, 1) (List.mem_of_getElem? (i := 27) rfl))
theorem dW_1116 : decode cL_law 1116 = .ok (.iadd, 1) := of_decide_eq_true (List.all_eq_true.mp lwA_14 (1116, .iadd, 1) (List.mem_of_getElem? (i := 28) rfl))
theorem dW_1117 : decode cL_law 1117 = .ok (.iaload, 1) := of_decide_eq_true (List.all_eq_true.mp lwA_14 (1117, .iaload, 1) (List.mem_of_getElem? (i := 29) rfl))
theorem dW_1118 : decode cL_law 1118 = .ok (.ifCond .eq 7, 3) := of_decide_eq_true (List.all_eq_true.mp lwA_14 (1118, .ifCond .eq 7, 3) (List.mem_of_getElem? (i := 30) rfl))
theorem dW_1121 : decode cL_law 1121 = .ok (.iconst 1, 1) := of_decide_eq_true (List.all_eq_true.mp lwA_14 (1121, .iconst 1, 1) (List.mem_of_getElem? (i := 31) rfl))
theorem dW_1122 : decode cL_law 1122 = .ok (.goto 4, 3) := of_decide_eq_true (List.all_eq_true.mp lwA_14 (1122, .goto 4, 3) (List.mem_of_getElem? (i := 32) rfl))
theorem dW_1125 : decode cL_law 1125 = .ok (.iconst 0, 1) := of_decide_eq_true (List.all_eq_true.mp lwA_14 (1125, .iconst 0, 1) (List.mem_of_getElem? (i := 33) rfl))
theorem dW_1126 : decode cL_law 1126 = .ok (.invokevirtual 135, 3) := of_decide_eq_true (List.all_eq_true.mp lwA_14 (1126, .invokevirtual 135, 3) (List.mem_of_getElem? (i := 34) rfl))
theorem dW_1129 : decode cL_law 1129 = .ok (.pop, 1) := of_decide_eq_true (List.all_eq_true.mp lwA_14 (1129, .pop, 1) (List.mem_of_getElem? (i := 35) rfl))
theorem dW_1130 : decode cL_law 1130 = .ok (.goto 499, 3) := of_decide_eq_true (List.all_eq_true.mp lwA_14 (1130, .goto 499, 3) (List.mem_of_getElem? (i := 36) rfl))
theorem dW_1133 : decode cL_law 1133 = .ok (.aload_n 1, 1) := of_decide_eq_true (List.all_eq_true.mp lwA_14 (1133, .aload_n 1, 1) (List.mem_of_getElem? (i := 37) rfl))
theorem dW_1134 : decode cL_law 1134 = .ok (.aload_n 0, 1) := of_decide_eq_true (List.all_eq_true.mp lwA_14 (1134, .aload_n 0, 1) (List.mem_of_getElem? (i := 38) rfl))
theorem dW_1135 : decode cL_law 1135 = .ok (.iload 4, 2) := of_decide_eq_true (List.all_eq_true.mp lwA_14 (1135, .iload 4, 2) (List.mem_of_getElem? (i := 39) rfl))
def lwL_15 : List (Nat × Instr × Nat) := [(1137, .iconst 1, 1), (1138, .iadd, 1), (1139, .iaload, 1), (1140, .invokevirtual 136, 3), (1143, .pop, 1), (1144, .aload_n 2, 1), (1145, .aload_n 0, 1), (1146, .iload 4, 2), (1148, .iconst 1, 1), (1149, .iadd, 1), (1150, .iaload, 1), (1151, .invokevirtual 139, 3), (1154, .pop, 1), (1155, .goto 474, 3), (1158, .aload_n 1, 1), (1159, .invokevirtual 140, 3), (1162, .pop, 1), (1163, .aload_n 2, 1), (1164, .invokevirtual 143, 3), (1167, .pop, 1), (1168, .goto 461, 3), (1171, .aload_n 1, 1), (1172, .aload_n 0, 1), (1173, .iload 4, 2), (1175, .iconst 1, 1), (1176, .iadd, 1), (1177, .iaload, 1), (1178, .invokevirtual 144, 3), (1181, .pop, 1), (1182, .aload_n 2, 1), (1183, .aload_n 0, 1), (1184, .iload 4, 2), (1186, .iconst 1, 1), (1187, .iadd, 1), (1188, .iaload, 1), (1189, .invokevirtual 147, 3), (1192, .pop, 1), (1193, .goto 436, 3), (1196, .aload_n 1, 1), (1197, .aload_n 0, 1)]
set_option maxRecDepth 100000 in
theorem lwA_15 : lwL_15.all lwq = true := by decide +kernel
theorem dW_1137 : decode cL_law 1137 = .ok (.iconst 1, 1) := of_decide_eq_true (List.all_eq_true.mp lwA_15 (1137, .iconst 1, 1) (List.mem_of_getElem? (i := 0) rfl))
theorem dW_1138 : decode cL_law 1138 = .ok (.iadd, 1) := of_decide_eq_true (List.all_eq_true.mp lwA_15 (1138, .iadd, 1) (List.mem_of_getElem? (i := 1) rfl))
theorem dW_1139 : decode cL_law 1139 = .ok (.iaload, 1) := of_decide_eq_true (List.all_eq_true.mp lwA_15 (1139, .iaload, 1) (List.mem_of_getElem? (i := 2) rfl))
theorem dW_1140 : decode cL_law 1140 = .ok (.invokevirtual 136, 3) := of_decide_eq_true (List.all_eq_true.mp lwA_15 (1140, .invokevirtual 136, 3) (List.mem_of_getElem? (i := 3) rfl))
theorem dW_1143 : decode cL_law 1143 = .ok (.pop, 1) := of_decide_eq_true (List.all_eq_true.mp lwA_15 (1143, .pop, 1) (List.mem_of_getElem? (i := 4) rfl))
theorem dW_1144 : decode cL_law 1144 = .ok (.aload_n 2, 1) := of_decide_eq_true (List.all_eq_true.mp lwA_15 (1144, .aload_n 2, 1) (List.mem_of_getElem? (i := 5) rfl))
theorem dW_1145 : decode cL_law 1145 = .ok (.aload_n 0, 1) := of_decide_eq_true (List.all_eq_true.mp lwA_15 (1145, .aload_n 0, 1) (List.mem_of_getElem? (i := 6) rfl))
theorem dW_1146 : decode cL_law 1146 = .ok (.iload 4, 2) := of_decide_eq_true (List.all_eq_true.mp lwA_15 (1146, .iload 4, 2) (List.mem_of_getElem? (i := 7) rfl))
theorem dW_1148 : decode cL_law 1148 = .ok (.iconst 1, 1) := of_decide_eq_true (List.all_eq_true.mp lwA_15 (1148, .iconst 1, 1) (List.mem_of_getElem? (i := 8) rfl))
theorem dW_1149 : decode cL_law 1149 = .ok (.iadd, 1) := of_decide_eq_true (List.all_eq_true.mp lwA_15 (1149, .iadd, 1) (List.mem_of_getElem? (i := 9) rfl))
theorem dW_1150 : decode cL_law 1150 = .ok (.iaload, 1) := of_decide_eq_true (List.all_eq_true.mp lwA_15 (1150, .iaload, 1) (List.mem_of_getElem? (i := 10) rfl))
theorem dW_1151 : decode cL_law 1151 = .ok (.invokevirtual 139, 3) := of_decide_eq_true (List.all_eq_true.mp lwA_15 (1151, .invokevirtual 139, 3) (List.mem_of_getElem? (i := 11) rfl))
theorem dW_1154 : decode cL_law 1154 = .ok (.pop, 1) := of_decide_eq_true (List.all_eq_true.mp lwA_15 (1154, .pop, 1) (List.mem_of_getElem? (i := 12) rfl))
theorem dW_1155 : decode cL_law 1155 = .ok (.goto 474, 3) := of_decide_eq_true (List.all_eq_true.mp lwA_15 (1155, .goto 474, 3) (List.mem_of_getElem? (i := 13) rfl))
theorem dW_1158 : decode cL_law 1158 = .ok (.aload_n 1, 1) := of_decide_eq_true (List.all_eq_true.mp lwA_15 (1158, .aload_n 1, 1) (List.mem_of_getElem? (i := 14) rfl))
theorem dW_1159 : decode cL_law 1159 = .ok (.invokevirtual 140, 3) := of_decide_eq_true (List.all_eq_true.mp lwA_15 (1159, .invokevirtual 140, 3) (List.mem_of_getElem? (i := 15) rfl))
theorem dW_1162 : decode cL_law 1162 = .ok (.pop, 1) := of_decide_eq_true (List.all_eq_true.mp lwA_15 (1162, .pop, 1) (List.mem_of_getElem? (i := 16) rfl))
theorem dW_1163 : decode cL_law 1163 = .ok (.aload_n 2, 1) := of_decide_eq_true (List.all_eq_true.mp lwA_15 (1163, .aload_n 2, 1) (List.mem_of_getElem? (i := 17) rfl))
theorem dW_1164 : decode cL_law 1164 = .ok (.invokevirtual 143, 3) := of_decide_eq_true (List.all_eq_true.mp lwA_15 (1164, .invokevirtual 143, 3) (List.mem_of_getElem? (i := 18) rfl))
theorem dW_1167 : decode cL_law 1167 = .ok (.pop, 1) := of_decide_eq_true (List.all_eq_true.mp lwA_15 (1167, .pop, 1) (List.mem_of_getElem? (i := 19) rfl))
theorem dW_1168 : decode cL_law 1168 = .ok (.goto 461, 3) := of_decide_eq_true (List.all_eq_true.mp lwA_15 (1168, .goto 461, 3) (List.mem_of_getElem? (i := 20) rfl))
theorem dW_1171 : decode cL_law 1171 = .ok (.aload_n 1, 1) := of_decide_eq_true (List.all_eq_true.mp lwA_15 (1171, .aload_n 1, 1) (List.mem_of_getElem? (i := 21) rfl))
theorem dW_1172 : decode cL_law 1172 = .ok (.aload_n 0, 1) := of_decide_eq_true (List.all_eq_true.mp lwA_15 (1172, .aload_n 0, 1) (List.mem_of_getElem? (i := 22) rfl))
theorem dW_1173 : decode cL_law 1173 = .ok (.iload 4, 2) := of_decide_eq_true (List.all_eq_true.mp lwA_15 (1173, .iload 4, 2) (List.mem_of_getElem? (i := 23) rfl))
theorem dW_1175 : decode cL_law 1175 = .ok (.iconst 1, 1) := of_decide_eq_true (List.all_eq_true.mp lwA_15 (1175, .iconst 1, 1) (List.mem_of_getElem? (i := 24) rfl))
theorem dW_1176 : decode cL_law 1176 = .ok (.iadd, 1) := of_decide_eq_true (List.all_eq_true.mp lwA_15 (1176, .iadd, 1) (List.mem_of_getElem? (i := 25) rfl))
theorem dW_1177 : decode cL_law 1177 = .ok (.iaload, 1) := of_decide_eq_true (List.all_eq_true.mp lwA_15 (1177, .iaload, 1) (List.mem_of_getElem? (i := 26) rfl))
theorem dW_1178 : decode cL_law 1178 = .ok (.invokevirtual 144, 3) := of_decide_eq_true (List.all_eq_true.mp lwA_15 (1178, .invokevirtual 144, 3) (List.mem_of_getElem? (i := 27) rfl))
theorem dW_1181 : decode cL_law 1181 = .ok (.pop, 1) := of_decide_eq_true (List.all_eq_true.mp lwA_15 (1181, .pop, 1) (List.mem_of_getElem? (i := 28) rfl))
theorem dW_1182 : decode cL_law 1182 = .ok (.aload_n 2, 1) := of_decide_eq_true (List.all_eq_true.mp lwA_15 (1182, .aload_n 2, 1) (List.mem_of_getElem? (i := 29) rfl))
theorem dW_1183 : decode cL_law 1183 = .ok (.aload_n 0, 1) := of_decide_eq_true (List.all_eq_true.mp lwA_15 (1183, .aload_n 0, 1) (List.mem_of_getElem? (i := 30) rfl))
theorem dW_1184 : decode cL_law 1184 = .ok (.iload 4, 2) := of_decide_eq_true (List.all_eq_true.mp lwA_15 (1184, .iload 4, 2) (List.mem_of_getElem? (i := 31) rfl))
theorem dW_1186 : decode cL_law 1186 = .ok (.iconst 1, 1) := of_decide_eq_true (List.all_eq_true.mp lwA_15 (1186, .iconst 1, 1) (List.mem_of_getElem? (i := 32) rfl))
theorem dW_1187 : decode cL_law 1187 = .ok (.iadd, 1) := of_decide_eq_true (List.all_eq_true.mp lwA_15 (1187, .iadd, 1) (List.mem_of_getElem? (i := 33) rfl))
theorem dW_1188 : decode cL_law 1188 = .ok (.iaload, 1) := of_decide_eq_true (List.all_eq_true.mp lwA_15 (1188, .iaload, 1) (List.mem_of_getElem? (i := 34) rfl))
theorem dW_1189 : decode cL_law 1189 = .ok (.invokevirtual 147, 3) := of_decide_eq_true (List.all_eq_true.mp lwA_15 (1189, .invokevirtual 147, 3) (List.mem_of_getElem? (i := 35) rfl))
theorem dW_1192 : decode cL_law 1192 = .ok (.pop, 1) := of_decide_eq_true (List.all_eq_true.mp lwA_15 (1192, .pop, 1) (List.mem_of_getElem? (i := 36) rfl))
theorem dW_1193 : decode cL_law 1193 = .ok (.goto 436, 3) := of_decide_eq_true (List.all_eq_true.mp lwA_15 (1193, .goto 436, 3) (List.mem_of_getElem? (i := 37) rfl))
theorem dW_1196 : decode cL_law 1196 = .ok (.aload_n 1, 1) := of_decide_eq_true (List.all_eq_true.mp lwA_15 (1196, .aload_n 1, 1) (List.mem_of_getElem? (i := 38) rfl))
theorem dW_1197 : decode cL_law 1197 = .ok (.aload_n 0, 1) := of_decide_eq_true (List.all_eq_true.mp lwA_15 (1197, .aload_n 0, 1) (List.mem_of_getElem? (i := 39) rfl))
def lwL_16 : List (Nat × Instr × Nat) := [(1198, .iload 4, 2), (1200, .iconst 1, 1), (1201, .iadd, 1), (1202, .iaload, 1), (1203, .aload_n 0, 1), (1204, .iload 4, 2), (1206, .iconst 2, 1), (1207, .iadd, 1), (1208, .iaload, 1), (1209, .invokevirtual 148, 3), (1212, .pop, 1), (1213, .aload_n 2, 1), (1214, .aload_n 0, 1), (1215, .iload 4, 2), (1217, .iconst 1, 1), (1218, .iadd, 1), (1219, .iaload, 1), (1220, .aload_n 0, 1), (1221, .iload 4, 2), (1223, .iconst 2, 1), (1224, .iadd, 1), (1225, .iaload, 1), (1226, .invokevirtual 151, 3), (1229, .pop, 1), (1230, .goto 399, 3), (1233, .aload_n 1, 1), (1234, .aload_n 0, 1), (1235, .iload 4, 2), (1237, .iconst 1, 1), (1238, .iadd, 1), (1239, .iaload, 1), (1240, .aload_n 0, 1), (1241, .iload 4, 2), (1243, .iconst 2, 1), (1244, .iadd, 1), (1245, .iaload, 1), (1246, .invokevirtual 152, 3), (1249, .pop, 1), (1250, .aload_n 2, 1), (1251, .aload_n 0, 1)]
set_option maxRecDepth 100000 in
theorem lwA_16 : lwL_16.all lwq = true := by decide +kernel
theorem dW_1198 : decode cL_law 1198 = .ok (.iload 4, 2) := of_decide_eq_true (List.all_eq_true.mp lwA_16 (1198, .iload 4, 2) (List.mem_of_getElem? (i := 0) rfl))
theorem dW_1200 : decode cL_law 1200 = .ok (.iconst 1, 1) := of_decide_eq_true (List.all_eq_true.mp lwA_16 (1200, .iconst 1, 1) (List.mem_of_getElem? (i := 1) rfl))
theorem dW_1201 : decode cL_law 1201 = .ok (.iadd, 1) := of_decide_eq_true (List.all_eq_true.mp lwA_16 (1201, .iadd, 1) (List.mem_of_getElem? (i := 2) rfl))
theorem dW_1202 : decode cL_law 1202 = .ok (.iaload, 1) := of_decide_eq_true (List.all_eq_true.mp lwA_16 (1202, .iaload, 1) (List.mem_of_getElem? (i := 3) rfl))
theorem dW_1203 : decode cL_law 1203 = .ok (.aload_n 0, 1) := of_decide_eq_true (List.all_eq_true.mp lwA_16 (1203, .aload_n 0, 1) (List.mem_of_getElem? (i := 4) rfl))
theorem dW_1204 : decode cL_law 1204 = .ok (.iload 4, 2) := of_decide_eq_true (List.all_eq_true.mp lwA_16 (1204, .iload 4, 2) (List.mem_of_getElem? (i := 5) rfl))
theorem dW_1206 : decode cL_law 1206 = .ok (.iconst 2, 1) := of_decide_eq_true (List.all_eq_true.mp lwA_16 (1206, .iconst 2, 1) (List.mem_of_getElem? (i := 6) rfl))
theorem dW_1207 : decode cL_law 1207 = .ok (.iadd, 1) := of_decide_eq_true (List.all_eq_true.mp lwA_16 (1207, .iadd, 1) (List.mem_of_getElem? (i := 7) rfl))
theorem dW_1208 : decode cL_law 1208 = .ok (.iaload, 1) := of_decide_eq_true (List.all_eq_true.mp lwA_16 (1208, .iaload, 1) (List.mem_of_getElem? (i := 8) rfl))
theorem dW_1209 : decode cL_law 1209 = .ok (.invokevirtual 148, 3) := of_decide_eq_true (List.all_eq_true.mp lwA_16 (1209, .invokevirtual 148, 3) (List.mem_of_getElem? (i := 9) rfl))
theorem dW_1212 : decode cL_law 1212 = .ok (.pop, 1) := of_decide_eq_true (List.all_eq_true.mp lwA_16 (1212, .pop, 1) (List.mem_of_getElem? (i := 10) rfl))
theorem dW_1213 : decode cL_law 1213 = .ok (.aload_n 2, 1) := of_decide_eq_true (List.all_eq_true.mp lwA_16 (1213, .aload_n 2, 1) (List.mem_of_getElem? (i := 11) rfl))
theorem dW_1214 : decode cL_law 1214 = .ok (.aload_n 0, 1) := of_decide_eq_true (List.all_eq_true.mp lwA_16 (1214, .aload_n 0, 1) (List.mem_of_getElem? (i := 12) rfl))
theorem dW_1215 : decode cL_law 1215 = .ok (.iload 4, 2) := of_decide_eq_true (List.all_eq_true.mp lwA_16 (1215, .iload 4, 2) (List.mem_of_getElem? (i := 13) rfl))
theorem dW_1217 : decode cL_law 1217 = .ok (.iconst 1, 1) := of_decide_eq_true (List.all_eq_true.mp lwA_16 (1217, .iconst 1, 1) (List.mem_of_getElem? (i := 14) rfl))
theorem dW_1218 : decode cL_law 1218 = .ok (.iadd, 1) := of_decide_eq_true (List.all_eq_true.mp lwA_16 (1218, .iadd, 1) (List.mem_of_getElem? (i := 15) rfl))
theorem dW_1219 : decode cL_law 1219 = .ok (.iaload, 1) := of_decide_eq_true (List.all_eq_true.mp lwA_16 (1219, .iaload, 1) (List.mem_of_getElem? (i := 16) rfl))
theorem dW_1220 : decode cL_law 1220 = .ok (.aload_n 0, 1) := of_decide_eq_true (List.all_eq_true.mp lwA_16 (1220, .aload_n 0, 1) (List.mem_of_getElem? (i := 17) rfl))
theorem dW_1221 : decode cL_law 1221 = .ok (.iload 4, 2) := of_decide_eq_true (List.all_eq_true.mp lwA_16 (1221, .iload 4, 2) (List.mem_of_getElem? (i := 18) rfl))
theorem dW_1223 : decode cL_law 1223 = .ok (.iconst 2, 1) := of_decide_eq_true (List.all_eq_true.mp lwA_16 (1223, .iconst 2, 1) (List.mem_of_getElem? (i := 19) rfl))
theorem dW_1224 : decode cL_law 1224 = .ok (.iadd, 1) := of_decide_eq_true (List.all_eq_true.mp lwA_16 (1224, .iadd, 1) (List.mem_of_getElem? (i := 20) rfl))
theorem dW_1225 : decode cL_law 1225 = .ok (.iaload, 1) := of_decide_eq_true (List.all_eq_true.mp lwA_16 (1225, .iaload, 1) (List.mem_of_getElem? (i := 21) rfl))
theorem dW_1226 : decode cL_law 1226 = .ok (.invokevirtual 151, 3) := of_decide_eq_true (List.all_eq_true.mp lwA_16 (1226, .invokevirtual 151, 3) (List.mem_of_getElem? (i := 22) rfl))
theorem dW_1229 : decode cL_law 1229 = .ok (.pop, 1) := of_decide_eq_true (List.all_eq_true.mp lwA_16 (1229, .pop, 1) (List.mem_of_getElem? (i := 23) rfl))
theorem dW_1230 : decode cL_law 1230 = .ok (.goto 399, 3) := of_decide_eq_true (List.all_eq_true.mp lwA_16 (1230, .goto 399, 3) (List.mem_of_getElem? (i := 24) rfl))
theorem dW_1233 : decode cL_law 1233 = .ok (.aload_n 1, 1) := of_decide_eq_true (List.all_eq_true.mp lwA_16 (1233, .aload_n 1, 1) (List.mem_of_getElem? (i := 25) rfl))
theorem dW_1234 : decode cL_law 1234 = .ok (.aload_n 0, 1) := of_decide_eq_true (List.all_eq_true.mp lwA_16 (1234, .aload_n 0, 1) (List.mem_of_getElem? (i := 26) rfl))
theorem dW_1235 : decode cL_law 1235 = .ok (.iload 4, 2) := of_decide_eq_true (List.all_eq_true.mp lwA_16 (1235, .iload 4, 2) (List.mem_of_getElem? (i := 27) rfl))
theorem dW_1237 : decode cL_law 1237 = .ok (.iconst 1, 1) := of_decide_eq_true (List.all_eq_true.mp lwA_16 (1237, .iconst 1, 1) (List.mem_of_getElem? (i := 28) rfl))
theorem dW_1238 : decode cL_law 1238 = .ok (.iadd, 1) := of_decide_eq_true (List.all_eq_true.mp lwA_16 (1238, .iadd, 1) (List.mem_of_getElem? (i := 29) rfl))
theorem dW_1239 : decode cL_law 1239 = .ok (.iaload, 1) := of_decide_eq_true (List.all_eq_true.mp lwA_16 (1239, .iaload, 1) (List.mem_of_getElem? (i := 30) rfl))
theorem dW_1240 : decode cL_law 1240 = .ok (.aload_n 0, 1) := of_decide_eq_true (List.all_eq_true.mp lwA_16 (1240, .aload_n 0, 1) (List.mem_of_getElem? (i := 31) rfl))
theorem dW_1241 : decode cL_law 1241 = .ok (.iload 4, 2) := of_decide_eq_true (List.all_eq_true.mp lwA_16 (1241, .iload 4, 2) (List.mem_of_getElem? (i := 32) rfl))
theorem dW_1243 : decode cL_law 1243 = .ok (.iconst 2, 1) := of_decide_eq_true (List.all_eq_true.mp lwA_16 (1243, .iconst 2, 1) (List.mem_of_getElem? (i := 33) rfl))
theorem dW_1244 : decode cL_law 1244 = .ok (.iadd, 1) := of_decide_eq_true (List.all_eq_true.mp lwA_16 (1244, .iadd, 1) (List.mem_of_getElem? (i := 34) rfl))
theorem dW_1245 : decode cL_law 1245 = .ok (.iaload, 1) := of_decide_eq_true (List.all_eq_true.mp lwA_16 (1245, .iaload, 1) (List.mem_of_getElem? (i := 35) rfl))
theorem dW_1246 : decode cL_law 1246 = .ok (.invokevirtual 152, 3) := of_decide_eq_true (List.all_eq_true.mp lwA_16 (1246, .invokevirtual 152, 3) (List.mem_of_getElem? (i := 36) rfl))
theorem dW_1249 : decode cL_law 1249 = .ok (.pop, 1) := of_decide_eq_true (List.all_eq_true.mp lwA_16 (1249, .pop, 1) (List.mem_of_getElem? (i := 37) rfl))
theorem dW_1250 : decode cL_law 1250 = .ok (.aload_n 2, 1) := of_decide_eq_true (List.all_eq_true.mp lwA_16 (1250, .aload_n 2, 1) (List.mem_of_getElem? (i := 38) rfl))
theorem dW_1251 : decode cL_law 1251 = .ok (.aload_n 0, 1) := of_decide_eq_true (List.all_eq_true.mp lwA_16 (1251, .aload_n 0, 1) (List.mem_of_getElem? (i := 39) rfl))
def lwL_17 : List (Nat × Instr × Nat) := [(1252, .iload 4, 2), (1254, .iconst 1, 1), (1255, .iadd, 1), (1256, .iaload, 1), (1257, .aload_n 0, 1), (1258, .iload 4, 2), (1260, .iconst 2, 1), (1261, .iadd, 1), (1262, .iaload, 1), (1263, .invokevirtual 155, 3), (1266, .pop, 1), (1267, .goto 362, 3), (1270, .aload_n 1, 1), (1271, .aload_n 0, 1), (1272, .iload 4, 2), (1274, .iconst 1, 1), (1275, .iadd, 1), (1276, .iaload, 1), (1277, .invokevirtual 156, 3), (1280, .pop, 1), (1281, .aload_n 2, 1), (1282, .aload_n 0, 1), (1283, .iload 4, 2), (1285, .iconst 1, 1), (1286, .iadd, 1), (1287, .iaload, 1), (1288, .invokevirtual 159, 3), (1291, .pop, 1), (1292, .goto 337, 3), (1295, .aload_n 1, 1), (1296, .aload_n 0, 1), (1297, .iload 4, 2), (1299, .iconst 1, 1), (1300, .iadd, 1), (1301, .iaload, 1), (1302, .invokevirtual 160, 3), (1305, .pop, 1), (1306, .aload_n 2, 1), (1307, .aload_n 0, 1), (1308, .iload 4, 2)]
set_option maxRecDepth 100000 in
theorem lwA_17 : lwL_17.all lwq = true := by decide +kernel
theorem dW_1252 : decode cL_law 1252 = .ok (.iload 4, 2) := of_decide_eq_true (List.all_eq_true.mp lwA_17 (1252, .iload 4, 2) (List.mem_of_getElem? (i := 0) rfl))
theorem dW_1254 : decode cL_law 1254 = .ok (.iconst 1, 1) := of_decide_eq_true (List.all_eq_true.mp lwA_17 (1254, .iconst 1, 1) (List.mem_of_getElem? (i := 1) rfl))
theorem dW_1255 : decode cL_law 1255 = .ok (.iadd, 1) := of_decide_eq_true (List.all_eq_true.mp lwA_17 (1255, .iadd, 1) (List.mem_of_getElem? (i := 2) rfl))
theorem dW_1256 : decode cL_law 1256 = .ok (.iaload, 1) := of_decide_eq_true (List.all_eq_true.mp lwA_17 (1256, .iaload, 1) (List.mem_of_getElem? (i := 3) rfl))
theorem dW_1257 : decode cL_law 1257 = .ok (.aload_n 0, 1) := of_decide_eq_true (List.all_eq_true.mp lwA_17 (1257, .aload_n 0, 1) (List.mem_of_getElem? (i := 4) rfl))
theorem dW_1258 : decode cL_law 1258 = .ok (.iload 4, 2) := of_decide_eq_true (List.all_eq_true.mp lwA_17 (1258, .iload 4, 2) (List.mem_of_getElem? (i := 5) rfl))
theorem dW_1260 : decode cL_law 1260 = .ok (.iconst 2, 1) := of_decide_eq_true (List.all_eq_true.mp lwA_17 (1260, .iconst 2, 1) (List.mem_of_getElem? (i := 6) rfl))
theorem dW_1261 : decode cL_law 1261 = .ok (.iadd, 1) := of_decide_eq_true (List.all_eq_true.mp lwA_17 (1261, .iadd, 1) (List.mem_of_getElem? (i := 7) rfl))
theorem dW_1262 : decode cL_law 1262 = .ok (.iaload, 1) := of_decide_eq_true (List.all_eq_true.mp lwA_17 (1262, .iaload, 1) (List.mem_of_getElem? (i := 8) rfl))
theorem dW_1263 : decode cL_law 1263 = .ok (.invokevirtual 155, 3) := of_decide_eq_true (List.all_eq_true.mp lwA_17 (1263, .invokevirtual 155, 3) (List.mem_of_getElem? (i := 9) rfl))
theorem dW_1266 : decode cL_law 1266 = .ok (.pop, 1) := of_decide_eq_true (List.all_eq_true.mp lwA_17 (1266, .pop, 1) (List.mem_of_getElem? (i := 10) rfl))
theorem dW_1267 : decode cL_law 1267 = .ok (.goto 362, 3) := of_decide_eq_true (List.all_eq_true.mp lwA_17 (1267, .goto 362, 3) (List.mem_of_getElem? (i := 11) rfl))
theorem dW_1270 : decode cL_law 1270 = .ok (.aload_n 1, 1) := of_decide_eq_true (List.all_eq_true.mp lwA_17 (1270, .aload_n 1, 1) (List.mem_of_getElem? (i := 12) rfl))
theorem dW_1271 : decode cL_law 1271 = .ok (.aload_n 0, 1) := of_decide_eq_true (List.all_eq_true.mp lwA_17 (1271, .aload_n 0, 1) (List.mem_of_getElem? (i := 13) rfl))
theorem dW_1272 : decode cL_law 1272 = .ok (.iload 4, 2) := of_decide_eq_true (List.all_eq_true.mp lwA_17 (1272, .iload 4, 2) (List.mem_of_getElem? (i := 14) rfl))
theorem dW_1274 : decode cL_law 1274 = .ok (.iconst 1, 1) := of_decide_eq_true (List.all_eq_true.mp lwA_17 (1274, .iconst 1, 1) (List.mem_of_getElem? (i := 15) rfl))
theorem dW_1275 : decode cL_law 1275 = .ok (.iadd, 1) := of_decide_eq_true (List.all_eq_true.mp lwA_17 (1275, .iadd, 1) (List.mem_of_getElem? (i := 16) rfl))
theorem dW_1276 : decode cL_law 1276 = .ok (.iaload, 1) := of_decide_eq_true (List.all_eq_true.mp lwA_17 (1276, .iaload, 1) (List.mem_of_getElem? (i := 17) rfl))
theorem dW_1277 : decode cL_law 1277 = .ok (.invokevirtual 156, 3) := of_decide_eq_true (List.all_eq_true.mp lwA_17 (1277, .invokevirtual 156, 3) (List.mem_of_getElem? (i := 18) rfl))
theorem dW_1280 : decode cL_law 1280 = .ok (.pop, 1) := of_decide_eq_true (List.all_eq_true.mp lwA_17 (1280, .pop, 1) (List.mem_of_getElem? (i := 19) rfl))
theorem dW_1281 : decode cL_law 1281 = .ok (.aload_n 2, 1) := of_decide_eq_true (List.all_eq_true.mp lwA_17 (1281, .aload_n 2, 1) (List.mem_of_getElem? (i := 20) rfl))
theorem dW_1282 : decode cL_law 1282 = .ok (.aload_n 0, 1) := of_decide_eq_true (List.all_eq_true.mp lwA_17 (1282, .aload_n 0, 1) (List.mem_of_getElem? (i := 21) rfl))
theorem dW_1283 : decode cL_law 1283 = .ok (.iload 4, 2) := of_decide_eq_true (List.all_eq_true.mp lwA_17 (1283, .iload 4, 2) (List.mem_of_getElem? (i := 22) rfl))
theorem dW_1285 : decode cL_law 1285 = .ok (.iconst 1, 1) := of_decide_eq_true (List.all_eq_true.mp lwA_17 (1285, .iconst 1, 1) (List.mem_of_getElem? (i := 23) rfl))
theorem dW_1286 : decode cL_law 1286 = .ok (.iadd, 1) := of_decide_eq_true (List.all_eq_true.mp lwA_17 (1286, .iadd, 1) (List.mem_of_getElem? (i := 24) rfl))
theorem dW_1287 : decode cL_law 1287 = .ok (.iaload, 1) := of_decide_eq_true (List.all_eq_true.mp lwA_17 (1287, .iaload, 1) (List.mem_of_getElem? (i := 25) rfl))
theorem dW_1288 : decode cL_law 1288 = .ok (.invokevirtual 159, 3) := of_decide_eq_true (List.all_eq_true.mp lwA_17 (1288, .invokevirtual 159, 3) (List.mem_of_getElem? (i := 26) rfl))
theorem dW_1291 : decode cL_law 1291 = .ok (.pop, 1) := of_decide_eq_true (List.all_eq_true.mp lwA_17 (1291, .pop, 1) (List.mem_of_getElem? (i := 27) rfl))
theorem dW_1292 : decode cL_law 1292 = .ok (.goto 337, 3) := of_decide_eq_true (List.all_eq_true.mp lwA_17 (1292, .goto 337, 3) (List.mem_of_getElem? (i := 28) rfl))
theorem dW_1295 : decode cL_law 1295 = .ok (.aload_n 1, 1) := of_decide_eq_true (List.all_eq_true.mp lwA_17 (1295, .aload_n 1, 1) (List.mem_of_getElem? (i := 29) rfl))
theorem dW_1296 : decode cL_law 1296 = .ok (.aload_n 0, 1) := of_decide_eq_true (List.all_eq_true.mp lwA_17 (1296, .aload_n 0, 1) (List.mem_of_getElem? (i := 30) rfl))
theorem dW_1297 : decode cL_law 1297 = .ok (.iload 4, 2) := of_decide_eq_true (List.all_eq_true.mp lwA_17 (1297, .iload 4, 2) (List.mem_of_getElem? (i := 31) rfl))
theorem dW_1299 : decode cL_law 1299 = .ok (.iconst 1, 1) := of_decide_eq_true (List.all_eq_true.mp lwA_17 (1299, .iconst 1, 1) (List.mem_of_getElem? (i := 32) rfl))
theorem dW_1300 : decode cL_law 1300 = .ok (.iadd, 1) := of_decide_eq_true (List.all_eq_true.mp lwA_17 (1300, .iadd, 1) (List.mem_of_getElem? (i := 33) rfl))
theorem dW_1301 : decode cL_law 1301 = .ok (.iaload, 1) := of_decide_eq_true (List.all_eq_true.mp lwA_17 (1301, .iaload, 1) (List.mem_of_getElem? (i := 34) rfl))
theorem dW_1302 : decode cL_law 1302 = .ok (.invokevirtual 160, 3) := of_decide_eq_true (List.all_eq_true.mp lwA_17 (1302, .invokevirtual 160, 3) (List.mem_of_getElem? (i := 35) rfl))
theorem dW_1305 : decode cL_law 1305 = .ok (.pop, 1) := of_decide_eq_true (List.all_eq_true.mp lwA_17 (1305, .pop, 1) (List.mem_of_getElem? (i := 36) rfl))
theorem dW_1306 : decode cL_law 1306 = .ok (.aload_n 2, 1) := of_decide_eq_true (List.all_eq_true.mp lwA_17 (1306, .aload_n 2, 1) (List.mem_of_getElem? (i := 37) rfl))
theorem dW_1307 : decode cL_law 1307 = .ok (.aload_n 0, 1) := of_decide_eq_true (List.all_eq_true.mp lwA_17 (1307, .aload_n 0, 1) (List.mem_of_getElem? (i := 38) rfl))
theorem dW_1308 : decode cL_law 1308 = .ok (.iload 4, 2) := of_decide_eq_true (List.all_eq_true.mp lwA_17 (1308, .iload 4, 2) (List.mem_of_getElem? (i := 39) rfl))
def lwL_18 : List (Nat × Instr × Nat) := [(1310, .iconst 1, 1), (1311, .iadd, 1), (1312, .iaload, 1), (1313, .invokevirtual 163, 3), (1316, .pop, 1), (1317, .goto 312, 3), (1320, .aload_n 1, 1), (1321, .aload_n 0, 1), (1322, .iload 4, 2), (1324, .iconst 1, 1), (1325, .iadd, 1), (1326, .iaload, 1), (1327, .aload_n 0, 1), (1328, .iload 4, 2), (1330, .iconst 2, 1), (1331, .iadd, 1), (1332, .iaload, 1), (1333, .aload_n 0, 1), (1334, .iload 4, 2), (1336, .iconst 3, 1), (1337, .iadd, 1), (1338, .iaload, 1), (1339, .aload_n 0, 1), (1340, .iload 4, 2), (1342, .iconst 4, 1), (1343, .iadd, 1), (1344, .iaload, 1), (1345, .aload_n 0, 1), (1346, .iload 4, 2), (1348, .iconst 5, 1), (1349, .iadd, 1), (1350, .iaload, 1), (1351, .invokevirtual 164, 3), (1354, .pop, 1), (1355, .aload_n 2, 1), (1356, .aload_n 0, 1), (1357, .iload 4, 2), (1359, .iconst 1, 1), (1360, .iadd, 1), (1361, .iaload, 1)]
set_option maxRecDepth 100000 in
theorem lwA_18 : lwL_18.all lwq = true := by decide +kernel
theorem dW_1310 : decode cL_law 1310 = .ok (.iconst 1, 1) := of_decide_eq_true (List.all_eq_true.mp lwA_18 (1310, .iconst 1, 1) (List.mem_of_getElem? (i := 0) rfl))
theorem dW_1311 : decode cL_law 1311 = .ok (.iadd, 1) := of_decide_eq_true (List.all_eq_true.mp lwA_18 (1311, .iadd, 1) (List.mem_of_getElem? (i := 1) rfl))
theorem dW_1312 : decode cL_law 1312 = .ok (.iaload, 1) := of_decide_eq_true (List.all_eq_true.mp lwA_18 (1312, .iaload, 1) (List.mem_of_getElem? (i := 2) rfl))
theorem dW_1313 : decode cL_law 1313 = .ok (.invokevirtual 163, 3) := of_decide_eq_true (List.all_eq_true.mp lwA_18 (1313, .invokevirtual 163, 3) (List.mem_of_getElem? (i := 3) rfl))
theorem dW_1316 : decode cL_law 1316 = .ok (.pop, 1) := of_decide_eq_true (List.all_eq_true.mp lwA_18 (1316, .pop, 1) (List.mem_of_getElem? (i := 4) rfl))
theorem dW_1317 : decode cL_law 1317 = .ok (.goto 312, 3) := of_decide_eq_true (List.all_eq_true.mp lwA_18 (1317, .goto 312, 3) (List.mem_of_getElem? (i := 5) rfl))
theorem dW_1320 : decode cL_law 1320 = .ok (.aload_n 1, 1) := of_decide_eq_true (List.all_eq_true.mp lwA_18 (1320, .aload_n 1, 1) (List.mem_of_getElem? (i := 6) rfl))
theorem dW_1321 : decode cL_law 1321 = .ok (.aload_n 0, 1) := of_decide_eq_true (List.all_eq_true.mp lwA_18 (1321, .aload_n 0, 1) (List.mem_of_getElem? (i := 7) rfl))
theorem dW_1322 : decode cL_law 1322 = .ok (.iload 4, 2) := of_decide_eq_true (List.all_eq_true.mp lwA_18 (1322, .iload 4, 2) (List.mem_of_getElem? (i := 8) rfl))
theorem dW_1324 : decode cL_law 1324 = .ok (.iconst 1, 1) := of_decide_eq_true (List.all_eq_true.mp lwA_18 (1324, .iconst 1, 1) (List.mem_of_getElem? (i := 9) rfl))
theorem dW_1325 : decode cL_law 1325 = .ok (.iadd, 1) := of_decide_eq_true (List.all_eq_true.mp lwA_18 (1325, .iadd, 1) (List.mem_of_getElem? (i := 10) rfl))
theorem dW_1326 : decode cL_law 1326 = .ok (.iaload, 1) := of_decide_eq_true (List.all_eq_true.mp lwA_18 (1326, .iaload, 1) (List.mem_of_getElem? (i := 11) rfl))
theorem dW_1327 : decode cL_law 1327 = .ok (.aload_n 0, 1) := of_decide_eq_true (List.all_eq_true.mp lwA_18 (1327, .aload_n 0, 1) (List.mem_of_getElem? (i := 12) rfl))
theorem dW_1328 : decode cL_law 1328 = .ok (.iload 4, 2) := of_decide_eq_true (List.all_eq_true.mp lwA_18 (1328, .iload 4, 2) (List.mem_of_getElem? (i := 13) rfl))
theorem dW_1330 : decode cL_law 1330 = .ok (.iconst 2, 1) := of_decide_eq_true (List.all_eq_true.mp lwA_18 (1330, .iconst 2, 1) (List.mem_of_getElem? (i := 14) rfl))
theorem dW_1331 : decode cL_law 1331 = .ok (.iadd, 1) := of_decide_eq_true (List.all_eq_true.mp lwA_18 (1331, .iadd, 1) (List.mem_of_getElem? (i := 15) rfl))
theorem dW_1332 : decode cL_law 1332 = .ok (.iaload, 1) := of_decide_eq_true (List.all_eq_true.mp lwA_18 (1332, .iaload, 1) (List.mem_of_getElem? (i := 16) rfl))
theorem dW_1333 : decode cL_law 1333 = .ok (.aload_n 0, 1) := of_decide_eq_true (List.all_eq_true.mp lwA_18 (1333, .aload_n 0, 1) (List.mem_of_getElem? (i := 17) rfl))
theorem dW_1334 : decode cL_law 1334 = .ok (.iload 4, 2) := of_decide_eq_true (List.all_eq_true.mp lwA_18 (1334, .iload 4, 2) (List.mem_of_getElem? (i := 18) rfl))
theorem dW_1336 : decode cL_law 1336 = .ok (.iconst 3, 1) := of_decide_eq_true (List.all_eq_true.mp lwA_18 (1336, .iconst 3, 1) (List.mem_of_getElem? (i := 19) rfl))
theorem dW_1337 : decode cL_law 1337 = .ok (.iadd, 1) := of_decide_eq_true (List.all_eq_true.mp lwA_18 (1337, .iadd, 1) (List.mem_of_getElem? (i := 20) rfl))
theorem dW_1338 : decode cL_law 1338 = .ok (.iaload, 1) := of_decide_eq_true (List.all_eq_true.mp lwA_18 (1338, .iaload, 1) (List.mem_of_getElem? (i := 21) rfl))
theorem dW_1339 : decode cL_law 1339 = .ok (.aload_n 0, 1) := of_decide_eq_true (List.all_eq_true.mp lwA_18 (1339, .aload_n 0, 1) (List.mem_of_getElem? (i := 22) rfl))
theorem dW_1340 : decode cL_law 1340 = .ok (.iload 4, 2) := of_decide_eq_true (List.all_eq_true.mp lwA_18 (1340, .iload 4, 2) (List.mem_of_getElem? (i := 23) rfl))
theorem dW_1342 : decode cL_law 1342 = .ok (.iconst 4, 1) := of_decide_eq_true (List.all_eq_true.mp lwA_18 (1342, .iconst 4, 1) (List.mem_of_getElem? (i := 24) rfl))
theorem dW_1343 : decode cL_law 1343 = .ok (.iadd, 1) := of_decide_eq_true (List.all_eq_true.mp lwA_18 (1343, .iadd, 1) (List.mem_of_getElem? (i := 25) rfl))
theorem dW_1344 : decode cL_law 1344 = .ok (.iaload, 1) := of_decide_eq_true (List.all_eq_true.mp lwA_18 (1344, .iaload, 1) (List.mem_of_getElem? (i := 26) rfl))
theorem dW_1345 : decode cL_law 1345 = .ok (.aload_n 0, 1) := of_decide_eq_true (List.all_eq_true.mp lwA_18 (1345, .aload_n 0, 1) (List.mem_of_getElem? (i := 27) rfl))
theorem dW_1346 : decode cL_law 1346 = .ok (.iload 4, 2) := of_decide_eq_true (List.all_eq_true.mp lwA_18 (1346, .iload 4, 2) (List.mem_of_getElem? (i := 28) rfl))
theorem dW_1348 : decode cL_law 1348 = .ok (.iconst 5, 1) := of_decide_eq_true (List.all_eq_true.mp lwA_18 (1348, .iconst 5, 1) (List.mem_of_getElem? (i := 29) rfl))
theorem dW_1349 : decode cL_law 1349 = .ok (.iadd, 1) := of_decide_eq_true (List.all_eq_true.mp lwA_18 (1349, .iadd, 1) (List.mem_of_getElem? (i := 30) rfl))
theorem dW_1350 : decode cL_law 1350 = .ok (.iaload, 1) := of_decide_eq_true (List.all_eq_true.mp lwA_18 (1350, .iaload, 1) (List.mem_of_getElem? (i := 31) rfl))
theorem dW_1351 : decode cL_law 1351 = .ok (.invokevirtual 164, 3) := of_decide_eq_true (List.all_eq_true.mp lwA_18 (1351, .invokevirtual 164, 3) (List.mem_of_getElem? (i := 32) rfl))
theorem dW_1354 : decode cL_law 1354 = .ok (.pop, 1) := of_decide_eq_true (List.all_eq_true.mp lwA_18 (1354, .pop, 1) (List.mem_of_getElem? (i := 33) rfl))
theorem dW_1355 : decode cL_law 1355 = .ok (.aload_n 2, 1) := of_decide_eq_true (List.all_eq_true.mp lwA_18 (1355, .aload_n 2, 1) (List.mem_of_getElem? (i := 34) rfl))
theorem dW_1356 : decode cL_law 1356 = .ok (.aload_n 0, 1) := of_decide_eq_true (List.all_eq_true.mp lwA_18 (1356, .aload_n 0, 1) (List.mem_of_getElem? (i := 35) rfl))
theorem dW_1357 : decode cL_law 1357 = .ok (.iload 4, 2) := of_decide_eq_true (List.all_eq_true.mp lwA_18 (1357, .iload 4, 2) (List.mem_of_getElem? (i := 36) rfl))
theorem dW_1359 : decode cL_law 1359 = .ok (.iconst 1, 1) := of_decide_eq_true (List.all_eq_true.mp lwA_18 (1359, .iconst 1, 1) (List.mem_of_getElem? (i := 37) rfl))
theorem dW_1360 : decode cL_law 1360 = .ok (.iadd, 1) := of_decide_eq_true (List.all_eq_true.mp lwA_18 (1360, .iadd, 1) (List.mem_of_getElem? (i := 38) rfl))
theorem dW_1361 : decode cL_law 1361 = .ok (.iaload, 1) := of_decide_eq_true (List.all_eq_true.mp lwA_18 (1361, .iaload, 1) (List.mem_of_getElem? (i := 39) rfl))
def lwL_19 : List (Nat × Instr × Nat) := [(1362, .aload_n 0, 1), (1363, .iload 4, 2), (1365, .iconst 2, 1), (1366, .iadd, 1), (1367, .iaload, 1), (1368, .aload_n 0, 1), (1369, .iload 4, 2), (1371, .iconst 3, 1), (1372, .iadd, 1), (1373, .iaload, 1), (1374, .aload_n 0, 1), (1375, .iload 4, 2), (1377, .iconst 4, 1), (1378, .iadd, 1), (1379, .iaload, 1), (1380, .aload_n 0, 1), (1381, .iload 4, 2), (1383, .iconst 5, 1), (1384, .iadd, 1), (1385, .iaload, 1), (1386, .invokevirtual 167, 3), (1389, .pop, 1), (1390, .goto 239, 3), (1393, .aload_n 1, 1), (1394, .aload_n 0, 1), (1395, .iload 4, 2), (1397, .iconst 1, 1), (1398, .iadd, 1), (1399, .iaload, 1), (1400, .aload_n 0, 1), (1401, .iload 4, 2), (1403, .iconst 2, 1), (1404, .iadd, 1), (1405, .iaload, 1), (1406, .aload_n 0, 1), (1407, .iload 4, 2), (1409, .iconst 3, 1), (1410, .iadd, 1), (1411, .iaload, 1), (1412, .invokevirtual 168, 3)]
set_option maxRecDepth 100000 in
theorem lwA_19 : lwL_19.all lwq = true := by decide +kernel
theorem dW_1362 : decode cL_law 1362 = .ok (.aload_n 0, 1) := of_decide_eq_true (List.all_eq_true.mp lwA_19 (1362, .aload_n 0, 1) (List.mem_of_getElem? (i := 0) rfl))
theorem dW_1363 : decode cL_law 1363 = .ok (.iload 4, 2) := of_decide_eq_true (List.all_eq_true.mp lwA_19 (1363, .iload 4, 2) (List.mem_of_getElem? (i := 1) rfl))
theorem dW_1365 : decode cL_law 1365 = .ok (.iconst 2, 1) := of_decide_eq_true (List.all_eq_true.mp lwA_19 (1365, .iconst 2, 1) (List.mem_of_getElem? (i := 2) rfl))
theorem dW_1366 : decode cL_law 1366 = .ok (.iadd, 1) := of_decide_eq_true (List.all_eq_true.mp lwA_19 (1366, .iadd, 1) (List.mem_of_getElem? (i := 3) rfl))
theorem dW_1367 : decode cL_law 1367 = .ok (.iaload, 1) := of_decide_eq_true (List.all_eq_true.mp lwA_19 (1367, .iaload, 1) (List.mem_of_getElem? (i := 4) rfl))
theorem dW_1368 : decode cL_law 1368 = .ok (.aload_n 0, 1) := of_decide_eq_true (List.all_eq_true.mp lwA_19 (1368, .aload_n 0, 1) (List.mem_of_getElem? (i := 5) rfl))
theorem dW_1369 : decode cL_law 1369 = .ok (.iload 4, 2) := of_decide_eq_true (List.all_eq_true.mp lwA_19 (1369, .iload 4, 2) (List.mem_of_getElem? (i := 6) rfl))
theorem dW_1371 : decode cL_law 1371 = .ok (.iconst 3, 1) := of_decide_eq_true (List.all_eq_true.mp lwA_19 (1371, .iconst 3, 1) (List.mem_of_getElem? (i := 7) rfl))
theorem dW_1372 : decode cL_law 1372 = .ok (.iadd, 1) := of_decide_eq_true (List.all_eq_true.mp lwA_19 (1372, .iadd, 1) (List.mem_of_getElem? (i := 8) rfl))
theorem dW_1373 : decode cL_law 1373 = .ok (.iaload, 1) := of_decide_eq_true (List.all_eq_true.mp lwA_19 (1373, .iaload, 1) (List.mem_of_getElem? (i := 9) rfl))
theorem dW_1374 : decode cL_law 1374 = .ok (.aload_n 0, 1) := of_decide_eq_true (List.all_eq_true.mp lwA_19 (1374, .aload_n 0, 1) (List.mem_of_getElem? (i := 10) rfl))
theorem dW_1375 : decode cL_law 1375 = .ok (.iload 4, 2) := of_decide_eq_true (List.all_eq_true.mp lwA_19 (1375, .iload 4, 2) (List.mem_of_getElem? (i := 11) rfl))
theorem dW_1377 : decode cL_law 1377 = .ok (.iconst 4, 1) := of_decide_eq_true (List.all_eq_true.mp lwA_19 (1377, .iconst 4, 1) (List.mem_of_getElem? (i := 12) rfl))
theorem dW_1378 : decode cL_law 1378 = .ok (.iadd, 1) := of_decide_eq_true (List.all_eq_true.mp lwA_19 (1378, .iadd, 1) (List.mem_of_getElem? (i := 13) rfl))
theorem dW_1379 : decode cL_law 1379 = .ok (.iaload, 1) := of_decide_eq_true (List.all_eq_true.mp lwA_19 (1379, .iaload, 1) (List.mem_of_getElem? (i := 14) rfl))
theorem dW_1380 : decode cL_law 1380 = .ok (.aload_n 0, 1) := of_decide_eq_true (List.all_eq_true.mp lwA_19 (1380, .aload_n 0, 1) (List.mem_of_getElem? (i := 15) rfl))
theorem dW_1381 : decode cL_law 1381 = .ok (.iload 4, 2) := of_decide_eq_true (List.all_eq_true.mp lwA_19 (1381, .iload 4, 2) (List.mem_of_getElem? (i := 16) rfl))
theorem dW_1383 : decode cL_law 1383 = .ok (.iconst 5, 1) := of_decide_eq_true (List.all_eq_true.mp lwA_19 (1383, .iconst 5, 1) (List.mem_of_getElem? (i := 17) rfl))
theorem dW_1384 : decode cL_law 1384 = .ok (.iadd, 1) := of_decide_eq_true (List.all_eq_true.mp lwA_19 (1384, .iadd, 1) (List.mem_of_getElem? (i := 18) rfl))
theorem dW_1385 : decode cL_law 1385 = .ok (.iaload, 1) := of_decide_eq_true (List.all_eq_true.mp lwA_19 (1385, .iaload, 1) (List.mem_of_getElem? (i := 19) rfl))
theorem dW_1386 : decode cL_law 1386 = .ok (.invokevirtual 167, 3) := of_decide_eq_true (List.all_eq_true.mp lwA_19 (1386, .invokevirtual 167, 3) (List.mem_of_getElem? (i := 20) rfl))
theorem dW_1389 : decode cL_law 1389 = .ok (.pop, 1) := of_decide_eq_true (List.all_eq_true.mp lwA_19 (1389, .pop, 1) (List.mem_of_getElem? (i := 21) rfl))
theorem dW_1390 : decode cL_law 1390 = .ok (.goto 239, 3) := of_decide_eq_true (List.all_eq_true.mp lwA_19 (1390, .goto 239, 3) (List.mem_of_getElem? (i := 22) rfl))
theorem dW_1393 : decode cL_law 1393 = .ok (.aload_n 1, 1) := of_decide_eq_true (List.all_eq_true.mp lwA_19 (1393, .aload_n 1, 1) (List.mem_of_getElem? (i := 23) rfl))
theorem dW_1394 : decode cL_law 1394 = .ok (.aload_n 0, 1) := of_decide_eq_true (List.all_eq_true.mp lwA_19 (1394, .aload_n 0, 1) (List.mem_of_getElem? (i := 24) rfl))
theorem dW_1395 : decode cL_law 1395 = .ok (.iload 4, 2) := of_decide_eq_true (List.all_eq_true.mp lwA_19 (1395, .iload 4, 2) (List.mem_of_getElem? (i := 25) rfl))
theorem dW_1397 : decode cL_law 1397 = .ok (.iconst 1, 1) := of_decide_eq_true (List.all_eq_true.mp lwA_19 (1397, .iconst 1, 1) (List.mem_of_getElem? (i := 26) rfl))
theorem dW_1398 : decode cL_law 1398 = .ok (.iadd, 1) := of_decide_eq_true (List.all_eq_true.mp lwA_19 (1398, .iadd, 1) (List.mem_of_getElem? (i := 27) rfl))
theorem dW_1399 : decode cL_law 1399 = .ok (.iaload, 1) := of_decide_eq_true (List.all_eq_true.mp lwA_19 (1399, .iaload, 1) (List.mem_of_getElem? (i := 28) rfl))
theorem dW_1400 : decode cL_law 1400 = .ok (.aload_n 0, 1) := of_decide_eq_true (List.all_eq_true.mp lwA_19 (1400, .aload_n 0, 1) (List.mem_of_getElem? (i := 29) rfl))
theorem dW_1401 : decode cL_law 1401 = .ok (.iload 4, 2) := of_decide_eq_true (List.all_eq_true.mp lwA_19 (1401, .iload 4, 2) (List.mem_of_getElem? (i := 30) rfl))
theorem dW_1403 : decode cL_law 1403 = .ok (.iconst 2, 1) := of_decide_eq_true (List.all_eq_true.mp lwA_19 (1403, .iconst 2, 1) (List.mem_of_getElem? (i := 31) rfl))
theorem dW_1404 : decode cL_law 1404 = .ok (.iadd, 1) := of_decide_eq_true (List.all_eq_true.mp lwA_19 (1404, .iadd, 1) (List.mem_of_getElem? (i := 32) rfl))
theorem dW_1405 : decode cL_law 1405 = .ok (.iaload, 1) := of_decide_eq_true (List.all_eq_true.mp lwA_19 (1405, .iaload, 1) (List.mem_of_getElem? (i := 33) rfl))
theorem dW_1406 : decode cL_law 1406 = .ok (.aload_n 0, 1) := of_decide_eq_true (List.all_eq_true.mp lwA_19 (1406, .aload_n 0, 1) (List.mem_of_getElem? (i := 34) rfl))
theorem dW_1407 : decode cL_law 1407 = .ok (.iload 4, 2) := of_decide_eq_true (List.all_eq_true.mp lwA_19 (1407, .iload 4, 2) (List.mem_of_getElem? (i := 35) rfl))
theorem dW_1409 : decode cL_law 1409 = .ok (.iconst 3, 1) := of_decide_eq_true (List.all_eq_true.mp lwA_19 (1409, .iconst 3, 1) (List.mem_of_getElem? (i := 36) rfl))
theorem dW_1410 : decode cL_law 1410 = .ok (.iadd, 1) := of_decide_eq_true (List.all_eq_true.mp lwA_19 (1410, .iadd, 1) (List.mem_of_getElem? (i := 37) rfl))
theorem dW_1411 : decode cL_law 1411 = .ok (.iaload, 1) := of_decide_eq_true (List.all_eq_true.mp lwA_19 (1411, .iaload, 1) (List.mem_of_getElem? (i := 38) rfl))
theorem dW_1412 : decode cL_law 1412 = .ok (.invokevirtual 168, 3) := of_decide_eq_true (List.all_eq_true.mp lwA_19 (1412, .invokevirtual 168, 3) (List.mem_of_getElem? (i := 39) rfl))
def lwL_20 : List (Nat × Instr × Nat) := [(1415, .pop, 1), (1416, .aload_n 2, 1), (1417, .aload_n 0, 1), (1418, .iload 4, 2), (1420, .iconst 1, 1), (1421, .iadd, 1), (1422, .iaload, 1), (1423, .aload_n 0, 1), (1424, .iload 4, 2), (1426, .iconst 2, 1), (1427, .iadd, 1), (1428, .iaload, 1), (1429, .aload_n 0, 1), (1430, .iload 4, 2), (1432, .iconst 3, 1), (1433, .iadd, 1), (1434, .iaload, 1), (1435, .invokevirtual 172, 3), (1438, .pop, 1), (1439, .goto 190, 3), (1442, .aload_n 1, 1), (1443, .aload_n 0, 1), (1444, .iload 4, 2), (1446, .iconst 1, 1), (1447, .iadd, 1), (1448, .iaload, 1), (1449, .aload_n 0, 1), (1450, .iload 4, 2), (1452, .iconst 2, 1), (1453, .iadd, 1), (1454, .iaload, 1), (1455, .invokevirtual 173, 3), (1458, .pop, 1), (1459, .aload_n 2, 1), (1460, .aload_n 0, 1), (1461, .iload 4, 2), (1463, .iconst 1, 1), (1464, .iadd, 1), (1465, .iaload, 1), (1466, .aload_n 0, 1)]
set_option maxRecDepth 100000 in
theorem lwA_20 : lwL_20.all lwq = true := by decide +kernel
theorem dW_1415 : decode cL_law 1415 = .ok (.pop, 1) := of_decide_eq_true (List.all_eq_true.mp lwA_20 (1415, .pop, 1) (List.mem_of_getElem? (i := 0) rfl))
theorem dW_1416 : decode cL_law 1416 = .ok (.aload_n 2, 1) := of_decide_eq_true (List.all_eq_true.mp lwA_20 (1416, .aload_n 2, 1) (List.mem_of_getElem? (i := 1) rfl))
theorem dW_1417 : decode cL_law 1417 = .ok (.aload_n 0, 1) := of_decide_eq_true (List.all_eq_true.mp lwA_20 (1417, .aload_n 0, 1) (List.mem_of_getElem? (i := 2) rfl))
theorem dW_1418 : decode cL_law 1418 = .ok (.iload 4, 2) := of_decide_eq_true (List.all_eq_true.mp lwA_20 (1418, .iload 4, 2) (List.mem_of_getElem? (i := 3) rfl))
theorem dW_1420 : decode cL_law 1420 = .ok (.iconst 1, 1) := of_decide_eq_true (List.all_eq_true.mp lwA_20 (1420, .iconst 1, 1) (List.mem_of_getElem? (i := 4) rfl))
theorem dW_1421 : decode cL_law 1421 = .ok (.iadd, 1) := of_decide_eq_true (List.all_eq_true.mp lwA_20 (1421, .iadd, 1) (List.mem_of_getElem? (i := 5) rfl))
theorem dW_1422 : decode cL_law 1422 = .ok (.iaload, 1) := of_decide_eq_true (List.all_eq_true.mp lwA_20 (1422, .iaload, 1) (List.mem_of_getElem? (i := 6) rfl))
theorem dW_1423 : decode cL_law 1423 = .ok (.aload_n 0, 1) := of_decide_eq_true (List.all_eq_true.mp lwA_20 (1423, .aload_n 0, 1) (List.mem_of_getElem? (i := 7) rfl))
theorem dW_1424 : decode cL_law 1424 = .ok (.iload 4, 2) := of_decide_eq_true (List.all_eq_true.mp lwA_20 (1424, .iload 4, 2) (List.mem_of_getElem? (i := 8) rfl))
theorem dW_1426 : decode cL_law 1426 = .ok (.iconst 2, 1) := of_decide_eq_true (List.all_eq_true.mp lwA_20 (1426, .iconst 2, 1) (List.mem_of_getElem? (i := 9) rfl))
theorem dW_1427 : decode cL_law 1427 = .ok (.iadd, 1) := of_decide_eq_true (List.all_eq_true.mp lwA_20 (1427, .iadd, 1) (List.mem_of_getElem? (i := 10) rfl))
theorem dW_1428 : decode cL_law 1428 = .ok (.iaload, 1) := of_decide_eq_true (List.all_eq_true.mp lwA_20 (1428, .iaload, 1) (List.mem_of_getElem? (i := 11) rfl))
theorem dW_1429 : decode cL_law 1429 = .ok (.aload_n 0, 1) := of_decide_eq_true (List.all_eq_true.mp lwA_20 (1429, .aload_n 0, 1) (List.mem_of_getElem? (i := 12) rfl))
theorem dW_1430 : decode cL_law 1430 = .ok (.iload 4, 2) := of_decide_eq_true (List.all_eq_true.mp lwA_20 (1430, .iload 4, 2) (List.mem_of_getElem? (i := 13) rfl))
theorem dW_1432 : decode cL_law 1432 = .ok (.iconst 3, 1) := of_decide_eq_true (List.all_eq_true.mp lwA_20 (1432, .iconst 3, 1) (List.mem_of_getElem? (i := 14) rfl))
theorem dW_1433 : decode cL_law 1433 = .ok (.iadd, 1) := of_decide_eq_true (List.all_eq_true.mp lwA_20 (1433, .iadd, 1) (List.mem_of_getElem? (i := 15) rfl))
theorem dW_1434 : decode cL_law 1434 = .ok (.iaload, 1) := of_decide_eq_true (List.all_eq_true.mp lwA_20 (1434, .iaload, 1) (List.mem_of_getElem? (i := 16) rfl))
theorem dW_1435 : decode cL_law 1435 = .ok (.invokevirtual 172, 3) := of_decide_eq_true (List.all_eq_true.mp lwA_20 (1435, .invokevirtual 172, 3) (List.mem_of_getElem? (i := 17) rfl))
theorem dW_1438 : decode cL_law 1438 = .ok (.pop, 1) := of_decide_eq_true (List.all_eq_true.mp lwA_20 (1438, .pop, 1) (List.mem_of_getElem? (i := 18) rfl))
theorem dW_1439 : decode cL_law 1439 = .ok (.goto 190, 3) := of_decide_eq_true (List.all_eq_true.mp lwA_20 (1439, .goto 190, 3) (List.mem_of_getElem? (i := 19) rfl))
theorem dW_1442 : decode cL_law 1442 = .ok (.aload_n 1, 1) := of_decide_eq_true (List.all_eq_true.mp lwA_20 (1442, .aload_n 1, 1) (List.mem_of_getElem? (i := 20) rfl))
theorem dW_1443 : decode cL_law 1443 = .ok (.aload_n 0, 1) := of_decide_eq_true (List.all_eq_true.mp lwA_20 (1443, .aload_n 0, 1) (List.mem_of_getElem? (i := 21) rfl))
theorem dW_1444 : decode cL_law 1444 = .ok (.iload 4, 2) := of_decide_eq_true (List.all_eq_true.mp lwA_20 (1444, .iload 4, 2) (List.mem_of_getElem? (i := 22) rfl))
theorem dW_1446 : decode cL_law 1446 = .ok (.iconst 1, 1) := of_decide_eq_true (List.all_eq_true.mp lwA_20 (1446, .iconst 1, 1) (List.mem_of_getElem? (i := 23) rfl))
theorem dW_1447 : decode cL_law 1447 = .ok (.iadd, 1) := of_decide_eq_true (List.all_eq_true.mp lwA_20 (1447, .iadd, 1) (List.mem_of_getElem? (i := 24) rfl))
theorem dW_1448 : decode cL_law 1448 = .ok (.iaload, 1) := of_decide_eq_true (List.all_eq_true.mp lwA_20 (1448, .iaload, 1) (List.mem_of_getElem? (i := 25) rfl))
theorem dW_1449 : decode cL_law 1449 = .ok (.aload_n 0, 1) := of_decide_eq_true (List.all_eq_true.mp lwA_20 (1449, .aload_n 0, 1) (List.mem_of_getElem? (i := 26) rfl))
theorem dW_1450 : decode cL_law 1450 = .ok (.iload 4, 2) := of_decide_eq_true (List.all_eq_true.mp lwA_20 (1450, .iload 4, 2) (List.mem_of_getElem? (i := 27) rfl))
theorem dW_1452 : decode cL_law 1452 = .ok (.iconst 2, 1) := of_decide_eq_true (List.all_eq_true.mp lwA_20 (1452, .iconst 2, 1) (List.mem_of_getElem? (i := 28) rfl))
theorem dW_1453 : decode cL_law 1453 = .ok (.iadd, 1) := of_decide_eq_true (List.all_eq_true.mp lwA_20 (1453, .iadd, 1) (List.mem_of_getElem? (i := 29) rfl))
theorem dW_1454 : decode cL_law 1454 = .ok (.iaload, 1) := of_decide_eq_true (List.all_eq_true.mp lwA_20 (1454, .iaload, 1) (List.mem_of_getElem? (i := 30) rfl))
theorem dW_1455 : decode cL_law 1455 = .ok (.invokevirtual 173, 3) := of_decide_eq_true (List.all_eq_true.mp lwA_20 (1455, .invokevirtual 173, 3) (List.mem_of_getElem? (i := 31) rfl))
theorem dW_1458 : decode cL_law 1458 = .ok (.pop, 1) := of_decide_eq_true (List.all_eq_true.mp lwA_20 (1458, .pop, 1) (List.mem_of_getElem? (i := 32) rfl))
theorem dW_1459 : decode cL_law 1459 = .ok (.aload_n 2, 1) := of_decide_eq_true (List.all_eq_true.mp lwA_20 (1459, .aload_n 2, 1) (List.mem_of_getElem? (i := 33) rfl))
theorem dW_1460 : decode cL_law 1460 = .ok (.aload_n 0, 1) := of_decide_eq_true (List.all_eq_true.mp lwA_20 (1460, .aload_n 0, 1) (List.mem_of_getElem? (i := 34) rfl))
theorem dW_1461 : decode cL_law 1461 = .ok (.iload 4, 2) := of_decide_eq_true (List.all_eq_true.mp lwA_20 (1461, .iload 4, 2) (List.mem_of_getElem? (i := 35) rfl))
theorem dW_1463 : decode cL_law 1463 = .ok (.iconst 1, 1) := of_decide_eq_true (List.all_eq_true.mp lwA_20 (1463, .iconst 1, 1) (List.mem_of_getElem? (i := 36) rfl))
theorem dW_1464 : decode cL_law 1464 = .ok (.iadd, 1) := of_decide_eq_true (List.all_eq_true.mp lwA_20 (1464, .iadd, 1) (List.mem_of_getElem? (i := 37) rfl))
theorem dW_1465 : decode cL_law 1465 = .ok (.iaload, 1) := of_decide_eq_true (List.all_eq_true.mp lwA_20 (1465, .iaload, 1) (List.mem_of_getElem? (i := 38) rfl))
theorem dW_1466 : decode cL_law 1466 = .ok (.aload_n 0, 1) := of_decide_eq_true (List.all_eq_true.mp lwA_20 (1466, .aload_n 0, 1) (List.mem_of_getElem? (i := 39) rfl))
def lwL_21 : List (Nat × Instr × Nat) := [(1467, .iload 4, 2), (1469, .iconst 2, 1), (1470, .iadd, 1), (1471, .iaload, 1), (1472, .invokevirtual 176, 3), (1475, .pop, 1), (1476, .goto 153, 3), (1479, .aload_n 1, 1), (1480, .aload_n 0, 1), (1481, .iload 4, 2), (1483, .iconst 1, 1), (1484, .iadd, 1), (1485, .iaload, 1), (1486, .aload_n 0, 1), (1487, .iload 4, 2), (1489, .iconst 2, 1), (1490, .iadd, 1), (1491, .iaload, 1), (1492, .invokevirtual 177, 3), (1495, .pop, 1), (1496, .aload_n 2, 1), (1497, .aload_n 0, 1), (1498, .iload 4, 2), (1500, .iconst 1, 1), (1501, .iadd, 1), (1502, .iaload, 1), (1503, .aload_n 0, 1), (1504, .iload 4, 2), (1506, .iconst 2, 1), (1507, .iadd, 1), (1508, .iaload, 1), (1509, .invokevirtual 180, 3), (1512, .pop, 1), (1513, .goto 116, 3), (1516, .aload_n 1, 1), (1517, .aload_n 0, 1), (1518, .iload 4, 2), (1520, .iconst 1, 1), (1521, .iadd, 1), (1522, .iaload, 1)]
set_option maxRecDepth 100000 in
theorem lwA_21 : lwL_21.all lwq = true := by decide +kernel
theorem dW_1467 : decode cL_law 1467 = .ok (.iload 4, 2) := of_decide_eq_true (List.all_eq_true.mp lwA_21 (1467, .iload 4, 2) (List.mem_of_getElem? (i := 0) rfl))
theorem dW_1469 : decode cL_law 1469 = .ok (.iconst 2, 1) := of_decide_eq_true (List.all_eq_true.mp lwA_21 (1469, .iconst 2, 1) (List.mem_of_getElem? (i := 1) rfl))
theorem dW_1470 : decode cL_law 1470 = .ok (.iadd, 1) := of_decide_eq_true (List.all_eq_true.mp lwA_21 (1470, .iadd, 1) (List.mem_of_getElem? (i := 2) rfl))
theorem dW_1471 : decode cL_law 1471 = .ok (.iaload, 1) := of_decide_eq_true (List.all_eq_true.mp lwA_21 (1471, .iaload, 1) (List.mem_of_getElem? (i := 3) rfl))
theorem dW_1472 : decode cL_law 1472 = .ok (.invokevirtual 176, 3) := of_decide_eq_true (List.all_eq_true.mp lwA_21 (1472, .invokevirtual 176, 3) (List.mem_of_getElem? (i := 4) rfl))
theorem dW_1475 : decode cL_law 1475 = .ok (.pop, 1) := of_decide_eq_true (List.all_eq_true.mp lwA_21 (1475, .pop, 1) (List.mem_of_getElem? (i := 5) rfl))
theorem dW_1476 : decode cL_law 1476 = .ok (.goto 153, 3) := of_decide_eq_true (List.all_eq_true.mp lwA_21 (1476, .goto 153, 3) (List.mem_of_getElem? (i := 6) rfl))
theorem dW_1479 : decode cL_law 1479 = .ok (.aload_n 1, 1) := of_decide_eq_true (List.all_eq_true.mp lwA_21 (1479, .aload_n 1, 1) (List.mem_of_getElem? (i := 7) rfl))
theorem dW_1480 : decode cL_law 1480 = .ok (.aload_n 0, 1) := of_decide_eq_true (List.all_eq_true.mp lwA_21 (1480, .aload_n 0, 1) (List.mem_of_getElem? (i := 8) rfl))
theorem dW_1481 : decode cL_law 1481 = .ok (.iload 4, 2) := of_decide_eq_true (List.all_eq_true.mp lwA_21 (1481, .iload 4, 2) (List.mem_of_getElem? (i := 9) rfl))
theorem dW_1483 : decode cL_law 1483 = .ok (.iconst 1, 1) := of_decide_eq_true (List.all_eq_true.mp lwA_21 (1483, .iconst 1, 1) (List.mem_of_getElem? (i := 10) rfl))
theorem dW_1484 : decode cL_law 1484 = .ok (.iadd, 1) := of_decide_eq_true (List.all_eq_true.mp lwA_21 (1484, .iadd, 1) (List.mem_of_getElem? (i := 11) rfl))
theorem dW_1485 : decode cL_law 1485 = .ok (.iaload, 1) := of_decide_eq_true (List.all_eq_true.mp lwA_21 (1485, .iaload, 1) (List.mem_of_getElem? (i := 12) rfl))
theorem dW_1486 : decode cL_law 1486 = .ok (.aload_n 0, 1) := of_decide_eq_true (List.all_eq_true.mp lwA_21 (1486, .aload_n 0, 1) (List.mem_of_getElem? (i := 13) rfl))
theorem dW_1487 : decode cL_law 1487 = .ok (.iload 4, 2) := of_decide_eq_true (List.all_eq_true.mp lwA_21 (1487, .iload 4, 2) (List.mem_of_getElem? (i := 14) rfl))
theorem dW_1489 : decode cL_law 1489 = .ok (.iconst 2, 1) := of_decide_eq_true (List.all_eq_true.mp lwA_21 (1489, .iconst 2, 1) (List.mem_of_getElem? (i := 15) rfl))
theorem dW_1490 : decode cL_law 1490 = .ok (.iadd, 1) := of_decide_eq_true (List.all_eq_true.mp lwA_21 (1490, .iadd, 1) (List.mem_of_getElem? (i := 16) rfl))
theorem dW_1491 : decode cL_law 1491 = .ok (.iaload, 1) := of_decide_eq_true (List.all_eq_true.mp lwA_21 (1491, .iaload, 1) (List.mem_of_getElem? (i := 17) rfl))
theorem dW_1492 : decode cL_law 1492 = .ok (.invokevirtual 177, 3) := of_decide_eq_true (List.all_eq_true.mp lwA_21 (1492, .invokevirtual 177, 3) (List.mem_of_getElem? (i := 18) rfl))
theorem dW_1495 : decode cL_law 1495 = .ok (.pop, 1) := of_decide_eq_true (List.all_eq_true.mp lwA_21 (1495, .pop, 1) (List.mem_of_getElem? (i := 19) rfl))
theorem dW_1496 : decode cL_law 1496 = .ok (.aload_n 2, 1) := of_decide_eq_true (List.all_eq_true.mp lwA_21 (1496, .aload_n 2, 1) (List.mem_of_getElem? (i := 20) rfl))
theorem dW_1497 : decode cL_law 1497 = .ok (.aload_n 0, 1) := of_decide_eq_true (List.all_eq_true.mp lwA_21 (1497, .aload_n 0, 1) (List.mem_of_getElem? (i := 21) rfl))
theorem dW_1498 : decode cL_law 1498 = .ok (.iload 4, 2) := of_decide_eq_true (List.all_eq_true.mp lwA_21 (1498, .iload 4, 2) (List.mem_of_getElem? (i := 22) rfl))
theorem dW_1500 : decode cL_law 1500 = .ok (.iconst 1, 1) := of_decide_eq_true (List.all_eq_true.mp lwA_21 (1500, .iconst 1, 1) (List.mem_of_getElem? (i := 23) rfl))
theorem dW_1501 : decode cL_law 1501 = .ok (.iadd, 1) := of_decide_eq_true (List.all_eq_true.mp lwA_21 (1501, .iadd, 1) (List.mem_of_getElem? (i := 24) rfl))
theorem dW_1502 : decode cL_law 1502 = .ok (.iaload, 1) := of_decide_eq_true (List.all_eq_true.mp lwA_21 (1502, .iaload, 1) (List.mem_of_getElem? (i := 25) rfl))
theorem dW_1503 : decode cL_law 1503 = .ok (.aload_n 0, 1) := of_decide_eq_true (List.all_eq_true.mp lwA_21 (1503, .aload_n 0, 1) (List.mem_of_getElem? (i := 26) rfl))
theorem dW_1504 : decode cL_law 1504 = .ok (.iload 4, 2) := of_decide_eq_true (List.all_eq_true.mp lwA_21 (1504, .iload 4, 2) (List.mem_of_getElem? (i := 27) rfl))
theorem dW_1506 : decode cL_law 1506 = .ok (.iconst 2, 1) := of_decide_eq_true (List.all_eq_true.mp lwA_21 (1506, .iconst 2, 1) (List.mem_of_getElem? (i := 28) rfl))
theorem dW_1507 : decode cL_law 1507 = .ok (.iadd, 1) := of_decide_eq_true (List.all_eq_true.mp lwA_21 (1507, .iadd, 1) (List.mem_of_getElem? (i := 29) rfl))
theorem dW_1508 : decode cL_law 1508 = .ok (.iaload, 1) := of_decide_eq_true (List.all_eq_true.mp lwA_21 (1508, .iaload, 1) (List.mem_of_getElem? (i := 30) rfl))
theorem dW_1509 : decode cL_law 1509 = .ok (.invokevirtual 180, 3) := of_decide_eq_true (List.all_eq_true.mp lwA_21 (1509, .invokevirtual 180, 3) (List.mem_of_getElem? (i := 31) rfl))
theorem dW_1512 : decode cL_law 1512 = .ok (.pop, 1) := of_decide_eq_true (List.all_eq_true.mp lwA_21 (1512, .pop, 1) (List.mem_of_getElem? (i := 32) rfl))
theorem dW_1513 : decode cL_law 1513 = .ok (.goto 116, 3) := of_decide_eq_true (List.all_eq_true.mp lwA_21 (1513, .goto 116, 3) (List.mem_of_getElem? (i := 33) rfl))
theorem dW_1516 : decode cL_law 1516 = .ok (.aload_n 1, 1) := of_decide_eq_true (List.all_eq_true.mp lwA_21 (1516, .aload_n 1, 1) (List.mem_of_getElem? (i := 34) rfl))
theorem dW_1517 : decode cL_law 1517 = .ok (.aload_n 0, 1) := of_decide_eq_true (List.all_eq_true.mp lwA_21 (1517, .aload_n 0, 1) (List.mem_of_getElem? (i := 35) rfl))
theorem dW_1518 : decode cL_law 1518 = .ok (.iload 4, 2) := of_decide_eq_true (List.all_eq_true.mp lwA_21 (1518, .iload 4, 2) (List.mem_of_getElem? (i := 36) rfl))
theorem dW_1520 : decode cL_law 1520 = .ok (.iconst 1, 1) := of_decide_eq_true (List.all_eq_true.mp lwA_21 (1520, .iconst 1, 1) (List.mem_of_getElem? (i := 37) rfl))
theorem dW_1521 : decode cL_law 1521 = .ok (.iadd, 1) := of_decide_eq_true (List.all_eq_true.mp lwA_21 (1521, .iadd, 1) (List.mem_of_getElem? (i := 38) rfl))
theorem dW_1522 : decode cL_law 1522 = .ok (.iaload, 1) := of_decide_eq_true (List.all_eq_true.mp lwA_21 (1522, .iaload, 1) (List.mem_of_getElem? (i := 39) rfl))
def lwL_22 : List (Nat × Instr × Nat) := [(1523, .invokevirtual 181, 3), (1526, .pop, 1), (1527, .aload_n 2, 1), (1528, .aload_n 0, 1), (1529, .iload 4, 2), (1531, .iconst 1, 1), (1532, .iadd, 1), (1533, .iaload, 1), (1534, .invokevirtual 184, 3), (1537, .pop, 1), (1538, .goto 91, 3), (1541, .aload_n 1, 1), (1542, .aload_n 0, 1), (1543, .iload 4, 2), (1545, .iconst 1, 1), (1546, .iadd, 1), (1547, .iaload, 1), (1548, .aload_n 0, 1), (1549, .iload 4, 2), (1551, .iconst 2, 1), (1552, .iadd, 1), (1553, .iaload, 1), (1554, .invokevirtual 185, 3), (1557, .pop, 1), (1558, .aload_n 2, 1), (1559, .aload_n 0, 1), (1560, .iload 4, 2), (1562, .iconst 1, 1), (1563, .iadd, 1), (1564, .iaload, 1), (1565, .aload_n 0, 1), (1566, .iload 4, 2), (1568, .iconst 2, 1), (1569, .iadd, 1), (1570, .iaload, 1), (1571, .invokevirtual 188, 3), (1574, .pop, 1), (1575, .goto 54, 3), (1578, .aload_n 1, 1), (1579, .invokevirtual 189, 3)]
set_option maxRecDepth 100000 in
theorem lwA_22 : lwL_22.all lwq = true := by decide +kernel
theorem dW_1523 : decode cL_law 1523 = .ok (.invokevirtual 181, 3) := of_decide_eq_true (List.all_eq_true.mp lwA_22 (1523, .invokevirtual 181, 3) (List.mem_of_getElem? (i := 0) rfl))
theorem dW_1526 : decode cL_law 1526 = .ok (.pop, 1) := of_decide_eq_true (List.all_eq_true.mp lwA_22 (1526, .pop, 1) (List.mem_of_getElem? (i := 1) rfl))
theorem dW_1527 : decode cL_law 1527 = .ok (.aload_n 2, 1) := of_decide_eq_true (List.all_eq_true.mp lwA_22 (1527, .aload_n 2, 1) (List.mem_of_getElem? (i := 2) rfl))
theorem dW_1528 : decode cL_law 1528 = .ok (.aload_n 0, 1) := of_decide_eq_true (List.all_eq_true.mp lwA_22 (1528, .aload_n 0, 1) (List.mem_of_getElem? (i := 3) rfl))
theorem dW_1529 : decode cL_law 1529 = .ok (.iload 4, 2) := of_decide_eq_true (List.all_eq_true.mp lwA_22 (1529, .iload 4, 2) (List.mem_of_getElem? (i := 4) rfl))
theorem dW_1531 : decode cL_law 1531 = .ok (.iconst 1, 1) := of_decide_eq_true (List.all_eq_true.mp lwA_22 (1531, .iconst 1, 1) (List.mem_of_getElem? (i := 5) rfl))
theorem dW_1532 : decode cL_law 1532 = .ok (.iadd, 1) := of_decide_eq_true (List.all_eq_true.mp lwA_22 (1532, .iadd, 1) (List.mem_of_getElem? (i := 6) rfl))
theorem dW_1533 : decode cL_law 1533 = .ok (.iaload, 1) := of_decide_eq_true (List.all_eq_true.mp lwA_22 (1533, .iaload, 1) (List.mem_of_getElem? (i := 7) rfl))
theorem dW_1534 : decode cL_law 1534 = .ok (.invokevirtual 184, 3) := of_decide_eq_true (List.all_eq_true.mp lwA_22 (1534, .invokevirtual 184, 3) (List.mem_of_getElem? (i := 8) rfl))
theorem dW_1537 : decode cL_law 1537 = .ok (.pop, 1) := of_decide_eq_true (List.all_eq_true.mp lwA_22 (1537, .pop, 1) (List.mem_of_getElem? (i := 9) rfl))
theorem dW_1538 : decode cL_law 1538 = .ok (.goto 91, 3) := of_decide_eq_true (List.all_eq_true.mp lwA_22 (1538, .goto 91, 3) (List.mem_of_getElem? (i := 10) rfl))
theorem dW_1541 : decode cL_law 1541 = .ok (.aload_n 1, 1) := of_decide_eq_true (List.all_eq_true.mp lwA_22 (1541, .aload_n 1, 1) (List.mem_of_getElem? (i := 11) rfl))
theorem dW_1542 : decode cL_law 1542 = .ok (.aload_n 0, 1) := of_decide_eq_true (List.all_eq_true.mp lwA_22 (1542, .aload_n 0, 1) (List.mem_of_getElem? (i := 12) rfl))
theorem dW_1543 : decode cL_law 1543 = .ok (.iload 4, 2) := of_decide_eq_true (List.all_eq_true.mp lwA_22 (1543, .iload 4, 2) (List.mem_of_getElem? (i := 13) rfl))
theorem dW_1545 : decode cL_law 1545 = .ok (.iconst 1, 1) := of_decide_eq_true (List.all_eq_true.mp lwA_22 (1545, .iconst 1, 1) (List.mem_of_getElem? (i := 14) rfl))
theorem dW_1546 : decode cL_law 1546 = .ok (.iadd, 1) := of_decide_eq_true (List.all_eq_true.mp lwA_22 (1546, .iadd, 1) (List.mem_of_getElem? (i := 15) rfl))
theorem dW_1547 : decode cL_law 1547 = .ok (.iaload, 1) := of_decide_eq_true (List.all_eq_true.mp lwA_22 (1547, .iaload, 1) (List.mem_of_getElem? (i := 16) rfl))
theorem dW_1548 : decode cL_law 1548 = .ok (.aload_n 0, 1) := of_decide_eq_true (List.all_eq_true.mp lwA_22 (1548, .aload_n 0, 1) (List.mem_of_getElem? (i := 17) rfl))
theorem dW_1549 : decode cL_law 1549 = .ok (.iload 4, 2) := of_decide_eq_true (List.all_eq_true.mp lwA_22 (1549, .iload 4, 2) (List.mem_of_getElem? (i := 18) rfl))
theorem dW_1551 : decode cL_law 1551 = .ok (.iconst 2, 1) := of_decide_eq_true (List.all_eq_true.mp lwA_22 (1551, .iconst 2, 1) (List.mem_of_getElem? (i := 19) rfl))
theorem dW_1552 : decode cL_law 1552 = .ok (.iadd, 1) := of_decide_eq_true (List.all_eq_true.mp lwA_22 (1552, .iadd, 1) (List.mem_of_getElem? (i := 20) rfl))
theorem dW_1553 : decode cL_law 1553 = .ok (.iaload, 1) := of_decide_eq_true (List.all_eq_true.mp lwA_22 (1553, .iaload, 1) (List.mem_of_getElem? (i := 21) rfl))
theorem dW_1554 : decode cL_law 1554 = .ok (.invokevirtual 185, 3) := of_decide_eq_true (List.all_eq_true.mp lwA_22 (1554, .invokevirtual 185, 3) (List.mem_of_getElem? (i := 22) rfl))
theorem dW_1557 : decode cL_law 1557 = .ok (.pop, 1) := of_decide_eq_true (List.all_eq_true.mp lwA_22 (1557, .pop, 1) (List.mem_of_getElem? (i := 23) rfl))
theorem dW_1558 : decode cL_law 1558 = .ok (.aload_n 2, 1) := of_decide_eq_true (List.all_eq_true.mp lwA_22 (1558, .aload_n 2, 1) (List.mem_of_getElem? (i := 24) rfl))
theorem dW_1559 : decode cL_law 1559 = .ok (.aload_n 0, 1) := of_decide_eq_true (List.all_eq_true.mp lwA_22 (1559, .aload_n 0, 1) (List.mem_of_getElem? (i := 25) rfl))
theorem dW_1560 : decode cL_law 1560 = .ok (.iload 4, 2) := of_decide_eq_true (List.all_eq_true.mp lwA_22 (1560, .iload 4, 2) (List.mem_of_getElem? (i := 26) rfl))
theorem dW_1562 : decode cL_law 1562 = .ok (.iconst 1, 1) := of_decide_eq_true (List.all_eq_true.mp lwA_22 (1562, .iconst 1, 1) (List.mem_of_getElem? (i := 27) rfl))
theorem dW_1563 : decode cL_law 1563 = .ok (.iadd, 1) := of_decide_eq_true (List.all_eq_true.mp lwA_22 (1563, .iadd, 1) (List.mem_of_getElem? (i := 28) rfl))
theorem dW_1564 : decode cL_law 1564 = .ok (.iaload, 1) := of_decide_eq_true (List.all_eq_true.mp lwA_22 (1564, .iaload, 1) (List.mem_of_getElem? (i := 29) rfl))
theorem dW_1565 : decode cL_law 1565 = .ok (.aload_n 0, 1) := of_decide_eq_true (List.all_eq_true.mp lwA_22 (1565, .aload_n 0, 1) (List.mem_of_getElem? (i := 30) rfl))
theorem dW_1566 : decode cL_law 1566 = .ok (.iload 4, 2) := of_decide_eq_true (List.all_eq_true.mp lwA_22 (1566, .iload 4, 2) (List.mem_of_getElem? (i := 31) rfl))
theorem dW_1568 : decode cL_law 1568 = .ok (.iconst 2, 1) := of_decide_eq_true (List.all_eq_true.mp lwA_22 (1568, .iconst 2, 1) (List.mem_of_getElem? (i := 32) rfl))
theorem dW_1569 : decode cL_law 1569 = .ok (.iadd, 1) := of_decide_eq_true (List.all_eq_true.mp lwA_22 (1569, .iadd, 1) (List.mem_of_getElem? (i := 33) rfl))
theorem dW_1570 : decode cL_law 1570 = .ok (.iaload, 1) := of_decide_eq_true (List.all_eq_true.mp lwA_22 (1570, .iaload, 1) (List.mem_of_getElem? (i := 34) rfl))
theorem dW_1571 : decode cL_law 1571 = .ok (.invokevirtual 188, 3) := of_decide_eq_true (List.all_eq_true.mp lwA_22 (1571, .invokevirtual 188, 3) (List.mem_of_getElem? (i := 35) rfl))
theorem dW_1574 : decode cL_law 1574 = .ok (.pop, 1) := of_decide_eq_true (List.all_eq_true.mp lwA_22 (1574, .pop, 1) (List.mem_of_getElem? (i := 36) rfl))
theorem dW_1575 : decode cL_law 1575 = .ok (.goto 54, 3) := of_decide_eq_true (List.all_eq_true.mp lwA_22 (1575, .goto 54, 3) (List.mem_of_getElem? (i := 37) rfl))
theorem dW_1578 : decode cL_law 1578 = .ok (.aload_n 1, 1) := of_decide_eq_true (List.all_eq_true.mp lwA_22 (1578, .aload_n 1, 1) (List.mem_of_getElem? (i := 38) rfl))
theorem dW_1579 : decode cL_law 1579 = .ok (.invokevirtual 189, 3) := of_decide_eq_true (List.all_eq_true.mp lwA_22 (1579, .invokevirtual 189, 3) (List.mem_of_getElem? (i := 39) rfl))
def lwL_23 : List (Nat × Instr × Nat) := [(1582, .pop, 1), (1583, .aload_n 2, 1), (1584, .invokevirtual 192, 3), (1587, .pop, 1), (1588, .goto 41, 3), (1591, .aload_n 1, 1), (1592, .invokevirtual 193, 3), (1595, .pop, 1), (1596, .aload_n 2, 1), (1597, .invokevirtual 196, 3), (1600, .pop, 1), (1601, .goto 28, 3), (1604, .aload_n 1, 1), (1605, .aload_n 0, 1), (1606, .iload 4, 2), (1608, .iconst 1, 1), (1609, .iadd, 1), (1610, .iaload, 1), (1611, .invokevirtual 197, 3), (1614, .pop, 1), (1615, .aload_n 2, 1), (1616, .aload_n 0, 1), (1617, .iload 4, 2), (1619, .iconst 1, 1), (1620, .iadd, 1), (1621, .iaload, 1), (1622, .invokevirtual 200, 3), (1625, .pop, 1), (1626, .goto 3, 3)]
set_option maxRecDepth 100000 in
theorem lwA_23 : lwL_23.all lwq = true := by decide +kernel
theorem dW_1582 : decode cL_law 1582 = .ok (.pop, 1) := of_decide_eq_true (List.all_eq_true.mp lwA_23 (1582, .pop, 1) (List.mem_of_getElem? (i := 0) rfl))
theorem dW_1583 : decode cL_law 1583 = .ok (.aload_n 2, 1) := of_decide_eq_true (List.all_eq_true.mp lwA_23 (1583, .aload_n 2, 1) (List.mem_of_getElem? (i := 1) rfl))
theorem dW_1584 : decode cL_law 1584 = .ok (.invokevirtual 192, 3) := of_decide_eq_true (List.all_eq_true.mp lwA_23 (1584, .invokevirtual 192, 3) (List.mem_of_getElem? (i := 2) rfl))
theorem dW_1587 : decode cL_law 1587 = .ok (.pop, 1) := of_decide_eq_true (List.all_eq_true.mp lwA_23 (1587, .pop, 1) (List.mem_of_getElem? (i := 3) rfl))
theorem dW_1588 : decode cL_law 1588 = .ok (.goto 41, 3) := of_decide_eq_true (List.all_eq_true.mp lwA_23 (1588, .goto 41, 3) (List.mem_of_getElem? (i := 4) rfl))
theorem dW_1591 : decode cL_law 1591 = .ok (.aload_n 1, 1) := of_decide_eq_true (List.all_eq_true.mp lwA_23 (1591, .aload_n 1, 1) (List.mem_of_getElem? (i := 5) rfl))
theorem dW_1592 : decode cL_law 1592 = .ok (.invokevirtual 193, 3) := of_decide_eq_true (List.all_eq_true.mp lwA_23 (1592, .invokevirtual 193, 3) (List.mem_of_getElem? (i := 6) rfl))
theorem dW_1595 : decode cL_law 1595 = .ok (.pop, 1) := of_decide_eq_true (List.all_eq_true.mp lwA_23 (1595, .pop, 1) (List.mem_of_getElem? (i := 7) rfl))
theorem dW_1596 : decode cL_law 1596 = .ok (.aload_n 2, 1) := of_decide_eq_true (List.all_eq_true.mp lwA_23 (1596, .aload_n 2, 1) (List.mem_of_getElem? (i := 8) rfl))
theorem dW_1597 : decode cL_law 1597 = .ok (.invokevirtual 196, 3) := of_decide_eq_true (List.all_eq_true.mp lwA_23 (1597, .invokevirtual 196, 3) (List.mem_of_getElem? (i := 9) rfl))
theorem dW_1600 : decode cL_law 1600 = .ok (.pop, 1) := of_decide_eq_true (List.all_eq_true.mp lwA_23 (1600, .pop, 1) (List.mem_of_getElem? (i := 10) rfl))
theorem dW_1601 : decode cL_law 1601 = .ok (.goto 28, 3) := of_decide_eq_true (List.all_eq_true.mp lwA_23 (1601, .goto 28, 3) (List.mem_of_getElem? (i := 11) rfl))
theorem dW_1604 : decode cL_law 1604 = .ok (.aload_n 1, 1) := of_decide_eq_true (List.all_eq_true.mp lwA_23 (1604, .aload_n 1, 1) (List.mem_of_getElem? (i := 12) rfl))
theorem dW_1605 : decode cL_law 1605 = .ok (.aload_n 0, 1) := of_decide_eq_true (List.all_eq_true.mp lwA_23 (1605, .aload_n 0, 1) (List.mem_of_getElem? (i := 13) rfl))
theorem dW_1606 : decode cL_law 1606 = .ok (.iload 4, 2) := of_decide_eq_true (List.all_eq_true.mp lwA_23 (1606, .iload 4, 2) (List.mem_of_getElem? (i := 14) rfl))
theorem dW_1608 : decode cL_law 1608 = .ok (.iconst 1, 1) := of_decide_eq_true (List.all_eq_true.mp lwA_23 (1608, .iconst 1, 1) (List.mem_of_getElem? (i := 15) rfl))
theorem dW_1609 : decode cL_law 1609 = .ok (.iadd, 1) := of_decide_eq_true (List.all_eq_true.mp lwA_23 (1609, .iadd, 1) (List.mem_of_getElem? (i := 16) rfl))
theorem dW_1610 : decode cL_law 1610 = .ok (.iaload, 1) := of_decide_eq_true (List.all_eq_true.mp lwA_23 (1610, .iaload, 1) (List.mem_of_getElem? (i := 17) rfl))
theorem dW_1611 : decode cL_law 1611 = .ok (.invokevirtual 197, 3) := of_decide_eq_true (List.all_eq_true.mp lwA_23 (1611, .invokevirtual 197, 3) (List.mem_of_getElem? (i := 18) rfl))
theorem dW_1614 : decode cL_law 1614 = .ok (.pop, 1) := of_decide_eq_true (List.all_eq_true.mp lwA_23 (1614, .pop, 1) (List.mem_of_getElem? (i := 19) rfl))
theorem dW_1615 : decode cL_law 1615 = .ok (.aload_n 2, 1) := of_decide_eq_true (List.all_eq_true.mp lwA_23 (1615, .aload_n 2, 1) (List.mem_of_getElem? (i := 20) rfl))
theorem dW_1616 : decode cL_law 1616 = .ok (.aload_n 0, 1) := of_decide_eq_true (List.all_eq_true.mp lwA_23 (1616, .aload_n 0, 1) (List.mem_of_getElem? (i := 21) rfl))
theorem dW_1617 : decode cL_law 1617 = .ok (.iload 4, 2) := of_decide_eq_true (List.all_eq_true.mp lwA_23 (1617, .iload 4, 2) (List.mem_of_getElem? (i := 22) rfl))
theorem dW_1619 : decode cL_law 1619 = .ok (.iconst 1, 1) := of_decide_eq_true (List.all_eq_true.mp lwA_23 (1619, .iconst 1, 1) (List.mem_of_getElem? (i := 23) rfl))
theorem dW_1620 : decode cL_law 1620 = .ok (.iadd, 1) := of_decide_eq_true (List.all_eq_true.mp lwA_23 (1620, .iadd, 1) (List.mem_of_getElem? (i := 24) rfl))
theorem dW_1621 : decode cL_law 1621 = .ok (.iaload, 1) := of_decide_eq_true (List.all_eq_true.mp lwA_23 (1621, .iaload, 1) (List.mem_of_getElem? (i := 25) rfl))
theorem dW_1622 : decode cL_law 1622 = .ok (.invokevirtual 200, 3) := of_decide_eq_true (List.all_eq_true.mp lwA_23 (1622, .invokevirtual 200, 3) (List.mem_of_getElem? (i := 26) rfl))
theorem dW_1625 : decode cL_law 1625 = .ok (.pop, 1) := of_decide_eq_true (List.all_eq_true.mp lwA_23 (1625, .pop, 1) (List.mem_of_getElem? (i := 27) rfl))
theorem dW_1626 : decode cL_law 1626 = .ok (.goto 3, 3) := of_decide_eq_true (List.all_eq_true.mp lwA_23 (1626, .goto 3, 3) (List.mem_of_getElem? (i := 28) rfl))
section CASES
variable {p : Program} {l : Launch} {e : Env} {s : State} {mid : MethodId} {below : List Frame} {meth : Method} {c : Code} {b L : Nat} {xs : Nat → Int32}
variable {dC : Nat → ClassId} {dI : Nat → Nat → Nat} {cA : Nat → ClassId} {q sv : Nat → Nat} {qo : Nat} {cells slots : Nat} {Q : State → Prop} {ls : Array Slot} {H : Heap} {locs : List Loc} {x : xM} {i : Nat}
theorem bo_any {y : Int32} (h : y = 0 ∨ y = 1) : aH (fun _ => 0) (.int y) (aI 0 1) := Or.inr (Or.inl ⟨rfl, y, rfl, by rcases h with h | h <;> rw [h] <;> decide, trivial⟩)
set_option maxHeartbeats 2000000 in
theorem lk_0 (C : lCx p l s mid meth c b L xs dC dI cA q sv qo) (hL : L ≤ 3072) (hi : i + 6 ≤ L) (hls : lv_has ls 7 (lvL b q qo i)) (hst : lSt s dC dI cA q qo x H locs) (hv : Inv x) (hcs : cells ≤ 601024 ∧ slots ≤ 7293033) (kk : ∀ (x' : xM) (H1 : Heap) (locs1 : List Loc), Inv x' → lSt s dC dI cA q qo x' H1 locs1 → W p l e room_1 s mid #[Value.ref b] below meth c H1 locs1 cells slots Q (F0 mid 1629 ls [])) : W p l e room_1 s mid #[Value.ref b] below meth c H locs cells slots Q (F0 mid 224 ls []) := by
  obtain ⟨hx, hb, hr, hml, hown, hts, -⟩ := id C.1
  have hown : s.vm.findClass RL = some mid.cls := hown
  refine l_a1 C dW_224 hls ?_
  refine l_arg C (k := 1) dW_225 dW_226 dW_228 dW_229 dW_230 (by decide) (by omega) hL hls hst ?_
  refine l_arg C (k := 2) dW_231 dW_232 dW_234 dW_235 dW_236 (by decide) (by omega) hL hls hst ?_
  refine l_arg C (k := 3) dW_237 dW_238 dW_240 dW_241 dW_242 (by decide) (by omega) hL hls hst ?_
  refine l_arg C (k := 4) dW_243 dW_244 dW_246 dW_247 dW_248 (by decide) (by omega) hL hls hst ?_
  refine l_arg C (k := 5) dW_249 dW_250 dW_252 dW_253 dW_254 (by decide) (by omega) hL hls hst ?_
  obtain ⟨XF, hx1, hm1⟩ := p_feed (xs (i + 1)) (xs (i + 2)) (xs (i + 3)) (xs (i + 4)) (xs (i + 5)) x hv
  refine l_call1 C (a := 0) (j := 96) (w := 552) (n := 5) (as := [.int (xs (i + 1)), .int (xs (i + 2)), .int (xs (i + 3)), .int (xs (i + 4)), .int (xs (i + 5))]) (rest := []) (d := 1200) dW_255 (by decide +kernel) rfl (by decide) (Nat.le_refl _) hx1 hls hst hcs (fun rv x1 H1 locs1 hp1 hst1 => ?_)
  obtain ⟨⟨z, rfl⟩, hp1⟩ := hp1
  refine lv_pop hx hb dW_258 rfl ?_
  refine l_a2 C dW_259 hls ?_
  refine l_arg C (k := 1) dW_260 dW_261 dW_263 dW_264 dW_265 (by decide) (by omega) hL hls hst1 ?_
  refine l_arg C (k := 2) dW_266 dW_267 dW_269 dW_270 dW_271 (by decide) (by omega) hL hls hst1 ?_
  refine l_arg C (k := 3) dW_272 dW_273 dW_275 dW_276 dW_277 (by decide) (by omega) hL hls hst1 ?_
  refine l_arg C (k := 4) dW_278 dW_279 dW_281 dW_282 dW_283 (by decide) (by omega) hL hls hst1 ?_
  refine l_arg C (k := 5) dW_284 dW_285 dW_287 dW_288 dW_289 (by decide) (by omega) hL hls hst1 ?_
  refine l_call1 C (a := 314) (j := 160) (w := 1456) (n := 5) (as := [.int (xs (i + 1)), .int (xs (i + 2)), .int (xs (i + 3)), .int (xs (i + 4)), .int (xs (i + 5))]) (rest := []) (d := 1200) dW_290 (by decide +kernel) rfl (by decide) (Nat.le_refl _) (hm1 _ _ hp1) hls hst1 hcs (fun rv x2 H2 locs2 hp2 hst2 => ?_)
  obtain ⟨rfl, hv2⟩ := hp2
  refine lv_pop hx hb dW_293 rfl ?_
  refine l_go C dW_294 (by decide) ?_
  exact kk x2 H2 locs2 hv2 hst2
set_option maxHeartbeats 2000000 in
theorem lk_1 (C : lCx p l s mid meth c b L xs dC dI cA q sv qo) (hL : L ≤ 3072) (hi : i + 6 ≤ L) (hls : lv_has ls 7 (lvL b q qo i)) (hst : lSt s dC dI cA q qo x H locs) (hv : Inv x) (hcs : cells ≤ 601024 ∧ slots ≤ 7293033) (kk : ∀ (x' : xM) (H1 : Heap) (locs1 : List Loc), Inv x' → lSt s dC dI cA q qo x' H1 locs1 → W p l e room_1 s mid #[Value.ref b] below meth c H1 locs1 cells slots Q (F0 mid 1629 ls [])) : W p l e room_1 s mid #[Value.ref b] below meth c H locs cells slots Q (F0 mid 297 ls []) := by
  obtain ⟨hx, hb, hr, hml, hown, hts, -⟩ := id C.1
  have hown : s.vm.findClass RL = some mid.cls := hown
  refine l_a1 C dW_297 hls ?_
  refine l_arg C (k := 1) dW_298 dW_299 dW_301 dW_302 dW_303 (by decide) (by omega) hL hls hst ?_
  obtain ⟨XF, hx1, hm1⟩ := p_end (xs (i + 1)) x hv
  refine l_call1 C (a := 0) (j := 97) (w := 563) (n := 1) (as := [.int (xs (i + 1))]) (rest := []) (d := 1200) dW_304 (by decide +kernel) rfl (by decide) (Nat.le_refl _) hx1 hls hst hcs (fun rv x1 H1 locs1 hp1 hst1 => ?_)
  obtain ⟨⟨z, rfl⟩, hp1⟩ := hp1
  refine lv_pop hx hb dW_307 rfl ?_
  refine l_a2 C dW_308 hls ?_
  refine l_arg C (k := 1) dW_309 dW_310 dW_312 dW_313 dW_314 (by decide) (by omega) hL hls hst1 ?_
  refine l_call1 C (a := 314) (j := 161) (w := 1467) (n := 1) (as := [.int (xs (i + 1))]) (rest := []) (d := 1200) dW_315 (by decide +kernel) rfl (by decide) (Nat.le_refl _) (hm1 _ _ hp1) hls hst1 hcs (fun rv x2 H2 locs2 hp2 hst2 => ?_)
  obtain ⟨rfl, hv2⟩ := hp2
  refine lv_pop hx hb dW_318 rfl ?_
  refine l_go C dW_319 (by decide) ?_
  exact kk x2 H2 locs2 hv2 hst2
set_option maxHeartbeats 2000000 in
theorem lk_2 (C : lCx p l s mid meth c b L xs dC dI cA q sv qo) (hL : L ≤ 3072) (hi : i + 6 ≤ L) (hls : lv_has ls 7 (lvL b q qo i)) (hst : lSt s dC dI cA q qo x H locs) (hv : Inv x) (hcs : cells ≤ 601024 ∧ slots ≤ 7293033) (kk : ∀ (x' : xM) (H1 : Heap) (locs1 : List Loc), Inv x' → lSt s dC dI cA q qo x' H1 locs1 → W p l e room_1 s mid #[Value.ref b] below meth c H1 locs1 cells slots Q (F0 mid 1629 ls [])) : W p l e room_1 s mid #[Value.ref b] below meth c H locs cells slots Q (F0 mid 322 ls []) := by
  obtain ⟨hx, hb, hr, hml, hown, hts, -⟩ := id C.1
  have hown : s.vm.findClass RL = some mid.cls := hown
  refine l_a1 C dW_322 hls ?_
  refine l_arg C (k := 1) dW_323 dW_324 dW_326 dW_327 dW_328 (by decide) (by omega) hL hls hst ?_
  obtain ⟨XF, hx1, hm1⟩ := p_fault (xs (i + 1)) x hv
  refine l_call1 C (a := 0) (j := 98) (w := 567) (n := 1) (as := [.int (xs (i + 1))]) (rest := []) (d := 1200) dW_329 (by decide +kernel) rfl (by decide) (Nat.le_refl _) hx1 hls hst hcs (fun rv x1 H1 locs1 hp1 hst1 => ?_)
  obtain ⟨⟨z, rfl⟩, hp1⟩ := hp1
  refine lv_pop hx hb dW_332 rfl ?_
  refine l_a2 C dW_333 hls ?_
  refine l_arg C (k := 1) dW_334 dW_335 dW_337 dW_338 dW_339 (by decide) (by omega) hL hls hst1 ?_
  refine l_call1 C (a := 314) (j := 190) (w := 1471) (n := 1) (as := [.int (xs (i + 1))]) (rest := []) (d := 1200) dW_340 (by decide +kernel) rfl (by decide) (Nat.le_refl _) (hm1 _ _ hp1) hls hst1 hcs (fun rv x2 H2 locs2 hp2 hst2 => ?_)
  obtain ⟨rfl, hv2⟩ := hp2
  refine lv_pop hx hb dW_343 rfl ?_
  refine l_go C dW_344 (by decide) ?_
  exact kk x2 H2 locs2 hv2 hst2
set_option maxHeartbeats 2000000 in
theorem lk_3 (C : lCx p l s mid meth c b L xs dC dI cA q sv qo) (hL : L ≤ 3072) (hi : i + 6 ≤ L) (hls : lv_has ls 7 (lvL b q qo i)) (hst : lSt s dC dI cA q qo x H locs) (hv : Inv x) (hcs : cells ≤ 601024 ∧ slots ≤ 7293033) (kk : ∀ (x' : xM) (H1 : Heap) (locs1 : List Loc), Inv x' → lSt s dC dI cA q qo x' H1 locs1 → W p l e room_1 s mid #[Value.ref b] below meth c H1 locs1 cells slots Q (F0 mid 1629 ls [])) : W p l e room_1 s mid #[Value.ref b] below meth c H locs cells slots Q (F0 mid 347 ls []) := by
  obtain ⟨hx, hb, hr, hml, hown, hts, -⟩ := id C.1
  have hown : s.vm.findClass RL = some mid.cls := hown
  refine l_a1 C dW_347 hls ?_
  refine l_arg C (k := 1) dW_348 dW_349 dW_351 dW_352 dW_353 (by decide) (by omega) hL hls hst ?_
  obtain ⟨XF, hx1, hm1⟩ := p_text (xs (i + 1)) x hv
  refine l_call1 C (a := 0) (j := 99) (w := 726) (n := 1) (as := [.int (xs (i + 1))]) (rest := []) (d := 1200) dW_354 (by decide +kernel) rfl (by decide) (Nat.le_refl _) hx1 hls hst hcs (fun rv x1 H1 locs1 hp1 hst1 => ?_)
  obtain ⟨⟨z, rfl⟩, hp1⟩ := hp1
  refine lv_pop hx hb dW_357 rfl ?_
  refine l_a2 C dW_358 hls ?_
  refine l_arg C (k := 1) dW_359 dW_360 dW_362 dW_363 dW_364 (by decide) (by omega) hL hls hst1 ?_
  refine l_call1 C (a := 314) (j := 191) (w := 1650) (n := 1) (as := [.int (xs (i + 1))]) (rest := []) (d := 1200) dW_365 (by decide +kernel) rfl (by decide) (Nat.le_refl _) (hm1 _ _ hp1) hls hst1 hcs (fun rv x2 H2 locs2 hp2 hst2 => ?_)
  obtain ⟨rfl, hv2⟩ := hp2
  refine lv_pop hx hb dW_368 rfl ?_
  refine l_go C dW_369 (by decide) ?_
  exact kk x2 H2 locs2 hv2 hst2
set_option maxHeartbeats 2000000 in
theorem lk_4 (C : lCx p l s mid meth c b L xs dC dI cA q sv qo) (hL : L ≤ 3072) (hi : i + 6 ≤ L) (hls : lv_has ls 7 (lvL b q qo i)) (hst : lSt s dC dI cA q qo x H locs) (hv : Inv x) (hcs : cells ≤ 601024 ∧ slots ≤ 7293033) (kk : ∀ (x' : xM) (H1 : Heap) (locs1 : List Loc), Inv x' → lSt s dC dI cA q qo x' H1 locs1 → W p l e room_1 s mid #[Value.ref b] below meth c H1 locs1 cells slots Q (F0 mid 1629 ls [])) : W p l e room_1 s mid #[Value.ref b] below meth c H locs cells slots Q (F0 mid 372 ls []) := by
  obtain ⟨hx, hb, hr, hml, hown, hts, -⟩ := id C.1
  have hown : s.vm.findClass RL = some mid.cls := hown
  refine l_a1 C dW_372 hls ?_
  refine l_arg C (k := 1) dW_373 dW_374 dW_376 dW_377 dW_378 (by decide) (by omega) hL hls hst ?_
  refine l_arg C (k := 2) dW_379 dW_380 dW_382 dW_383 dW_384 (by decide) (by omega) hL hls hst ?_
  refine l_cp C (a := 0) (idx := 38) (w := 761) (n := 2) (vs := [.int (xs (i + 1)), .int (xs (i + 2))]) q113 (by decide) dW_385 dW_388 (by decide +kernel) rfl (by decide +kernel) (by decide +kernel) (fun z => trivial) ⟨aI_any _, aI_any _, trivial⟩ hv hls hst hcs (fun x1 H1 locs1 hv1 hst1 => ?_)
  refine l_a2 C dW_389 hls ?_
  refine l_arg C (k := 1) dW_390 dW_391 dW_393 dW_394 dW_395 (by decide) (by omega) hL hls hst1 ?_
  refine l_arg C (k := 2) dW_396 dW_397 dW_399 dW_400 dW_401 (by decide) (by omega) hL hls hst1 ?_
  refine l_cp C (a := 314) (idx := 41) (w := 1655) (n := 2) (vs := [.int (xs (i + 1)), .int (xs (i + 2))]) r15 (by decide) dW_402 dW_405 (by decide +kernel) rfl (by decide +kernel) (by decide +kernel) (fun z => z.2.1) ⟨aI_any _, aI_any _, trivial⟩ hv1 hls hst1 hcs (fun x2 H2 locs2 hv2 hst2 => ?_)
  refine l_go C dW_406 (by decide) ?_
  exact kk x2 H2 locs2 hv2 hst2
set_option maxHeartbeats 2000000 in
theorem lk_5 (C : lCx p l s mid meth c b L xs dC dI cA q sv qo) (hL : L ≤ 3072) (hi : i + 6 ≤ L) (hls : lv_has ls 7 (lvL b q qo i)) (hst : lSt s dC dI cA q qo x H locs) (hv : Inv x) (hcs : cells ≤ 601024 ∧ slots ≤ 7293033) (kk : ∀ (x' : xM) (H1 : Heap) (locs1 : List Loc), Inv x' → lSt s dC dI cA q qo x' H1 locs1 → W p l e room_1 s mid #[Value.ref b] below meth c H1 locs1 cells slots Q (F0 mid 1629 ls [])) : W p l e room_1 s mid #[Value.ref b] below meth c H locs cells slots Q (F0 mid 409 ls []) := by
  obtain ⟨hx, hb, hr, hml, hown, hts, -⟩ := id C.1
  have hown : s.vm.findClass RL = some mid.cls := hown
  refine l_a1 C dW_409 hls ?_
  refine l_arg C (k := 1) dW_410 dW_411 dW_413 dW_414 dW_415 (by decide) (by omega) hL hls hst ?_
  refine l_arg C (k := 2) dW_416 dW_417 dW_419 dW_420 dW_421 (by decide) (by omega) hL hls hst ?_
  obtain ⟨XF, hx1, hm1⟩ := p_street (xs (i + 1)) (xs (i + 2)) x hv
  refine l_call1 C (a := 0) (j := 102) (w := 783) (n := 2) (as := [.int (xs (i + 1)), .int (xs (i + 2))]) (rest := []) (d := 1200) dW_422 (by decide +kernel) rfl (by decide) (Nat.le_refl _) hx1 hls hst hcs (fun rv x1 H1 locs1 hp1 hst1 => ?_)
  obtain ⟨⟨z, rfl⟩, hp1⟩ := hp1
  refine lv_pop hx hb dW_425 rfl ?_
  refine l_a2 C dW_426 hls ?_
  refine l_arg C (k := 1) dW_427 dW_428 dW_430 dW_431 dW_432 (by decide) (by omega) hL hls hst1 ?_
  refine l_arg C (k := 2) dW_433 dW_434 dW_436 dW_437 dW_438 (by decide) (by omega) hL hls hst1 ?_
  refine l_call1 C (a := 314) (j := 206) (w := 1667) (n := 2) (as := [.int (xs (i + 1)), .int (xs (i + 2))]) (rest := []) (d := 1200) dW_439 (by decide +kernel) rfl (by decide) (Nat.le_refl _) (hm1 _ _ hp1) hls hst1 hcs (fun rv x2 H2 locs2 hp2 hst2 => ?_)
  obtain ⟨rfl, hv2⟩ := hp2
  refine lv_pop hx hb dW_442 rfl ?_
  refine l_go C dW_443 (by decide) ?_
  exact kk x2 H2 locs2 hv2 hst2
set_option maxHeartbeats 2000000 in
theorem lk_7 (C : lCx p l s mid meth c b L xs dC dI cA q sv qo) (hL : L ≤ 3072) (hi : i + 6 ≤ L) (hls : lv_has ls 7 (lvL b q qo i)) (hst : lSt s dC dI cA q qo x H locs) (hv : Inv x) (hcs : cells ≤ 601024 ∧ slots ≤ 7293033) (kk : ∀ (x' : xM) (H1 : Heap) (locs1 : List Loc), Inv x' → lSt s dC dI cA q qo x' H1 locs1 → W p l e room_1 s mid #[Value.ref b] below meth c H1 locs1 cells slots Q (F0 mid 1629 ls [])) : W p l e room_1 s mid #[Value.ref b] below meth c H locs cells slots Q (F0 mid 514 ls []) := by
  obtain ⟨hx, hb, hr, hml, hown, hts, -⟩ := id C.1
  have hown : s.vm.findClass RL = some mid.cls := hown
  refine l_a1 C dW_514 hls ?_
  refine l_arg C (k := 1) dW_515 dW_516 dW_518 dW_519 dW_520 (by decide) (by omega) hL hls hst ?_
  obtain ⟨XF, hx1, hm1⟩ := p_law (xs (i + 1)) x hv
  refine l_call1 C (a := 0) (j := 104) (w := 797) (n := 1) (as := [.int (xs (i + 1))]) (rest := []) (d := 1200) dW_521 (by decide +kernel) rfl (by decide) (Nat.le_refl _) hx1 hls hst hcs (fun rv x1 H1 locs1 hp1 hst1 => ?_)
  obtain ⟨⟨z, rfl⟩, hp1⟩ := hp1
  refine lv_pop hx hb dW_524 rfl ?_
  refine l_a2 C dW_525 hls ?_
  refine l_arg C (k := 1) dW_526 dW_527 dW_529 dW_530 dW_531 (by decide) (by omega) hL hls hst1 ?_
  refine l_call1 C (a := 314) (j := 208) (w := 1684) (n := 1) (as := [.int (xs (i + 1))]) (rest := []) (d := 1200) dW_532 (by decide +kernel) rfl (by decide) (Nat.le_refl _) (hm1 _ _ hp1) hls hst1 hcs (fun rv x2 H2 locs2 hp2 hst2 => ?_)
  obtain ⟨rfl, hv2⟩ := hp2
  refine lv_pop hx hb dW_535 rfl ?_
  refine l_go C dW_536 (by decide) ?_
  exact kk x2 H2 locs2 hv2 hst2
set_option maxHeartbeats 2000000 in
theorem lk_8 (C : lCx p l s mid meth c b L xs dC dI cA q sv qo) (hL : L ≤ 3072) (hi : i + 6 ≤ L) (hls : lv_has ls 7 (lvL b q qo i)) (hst : lSt s dC dI cA q qo x H locs) (hv : Inv x) (hcs : cells ≤ 601024 ∧ slots ≤ 7293033) (kk : ∀ (x' : xM) (H1 : Heap) (locs1 : List Loc), Inv x' → lSt s dC dI cA q qo x' H1 locs1 → W p l e room_1 s mid #[Value.ref b] below meth c H1 locs1 cells slots Q (F0 mid 1629 ls [])) : W p l e room_1 s mid #[Value.ref b] below meth c H locs cells slots Q (F0 mid 539 ls []) := by
  obtain ⟨hx, hb, hr, hml, hown, hts, -⟩ := id C.1
  have hown : s.vm.findClass RL = some mid.cls := hown
  refine l_a1 C dW_539 hls ?_
  refine l_arg C (k := 1) dW_540 dW_541 dW_543 dW_544 dW_545 (by decide) (by omega) hL hls hst ?_
  obtain ⟨XF, hx1, hm1⟩ := p_council (xs (i + 1)) x hv
  refine l_call1 C (a := 0) (j := 105) (w := 801) (n := 1) (as := [.int (xs (i + 1))]) (rest := []) (d := 1200) dW_546 (by decide +kernel) rfl (by decide) (Nat.le_refl _) hx1 hls hst hcs (fun rv x1 H1 locs1 hp1 hst1 => ?_)
  obtain ⟨⟨z, rfl⟩, hp1⟩ := hp1
  refine lv_pop hx hb dW_549 rfl ?_
  refine l_a2 C dW_550 hls ?_
  refine l_arg C (k := 1) dW_551 dW_552 dW_554 dW_555 dW_556 (by decide) (by omega) hL hls hst1 ?_
  refine l_call1 C (a := 314) (j := 209) (w := 1688) (n := 1) (as := [.int (xs (i + 1))]) (rest := []) (d := 1200) dW_557 (by decide +kernel) rfl (by decide) (Nat.le_refl _) (hm1 _ _ hp1) hls hst1 hcs (fun rv x2 H2 locs2 hp2 hst2 => ?_)
  obtain ⟨rfl, hv2⟩ := hp2
  refine lv_pop hx hb dW_560 rfl ?_
  refine l_go C dW_561 (by decide) ?_
  exact kk x2 H2 locs2 hv2 hst2
set_option maxHeartbeats 2000000 in
theorem lk_9 (C : lCx p l s mid meth c b L xs dC dI cA q sv qo) (hL : L ≤ 3072) (hi : i + 6 ≤ L) (hls : lv_has ls 7 (lvL b q qo i)) (hst : lSt s dC dI cA q qo x H locs) (hv : Inv x) (hcs : cells ≤ 601024 ∧ slots ≤ 7293033) (kk : ∀ (x' : xM) (H1 : Heap) (locs1 : List Loc), Inv x' → lSt s dC dI cA q qo x' H1 locs1 → W p l e room_1 s mid #[Value.ref b] below meth c H1 locs1 cells slots Q (F0 mid 1629 ls [])) : W p l e room_1 s mid #[Value.ref b] below meth c H locs cells slots Q (F0 mid 564 ls []) := by
  obtain ⟨hx, hb, hr, hml, hown, hts, -⟩ := id C.1
  have hown : s.vm.findClass RL = some mid.cls := hown
  refine l_a1 C dW_564 hls ?_
  obtain ⟨XF, hx1, hm1⟩ := p_day  x hv
  refine l_call1 C (a := 0) (j := 113) (w := 817) (n := 0) (as := []) (rest := []) (d := 1200) dW_565 (by decide +kernel) rfl (by decide) (Nat.le_refl _) hx1 hls hst hcs (fun rv x1 H1 locs1 hp1 hst1 => ?_)
  obtain ⟨⟨z, rfl⟩, hp1⟩ := hp1
  refine lv_pop hx hb dW_568 rfl ?_
  refine l_a2 C dW_569 hls ?_
  refine l_call1 C (a := 314) (j := 212) (w := 1693) (n := 0) (as := []) (rest := []) (d := 1200) dW_570 (by decide +kernel) rfl (by decide) (Nat.le_refl _) (hm1 _ _ hp1) hls hst1 hcs (fun rv x2 H2 locs2 hp2 hst2 => ?_)
  obtain ⟨rfl, hv2⟩ := hp2
  refine lv_pop hx hb dW_573 rfl ?_
  refine l_go C dW_574 (by decide) ?_
  exact kk x2 H2 locs2 hv2 hst2
set_option maxHeartbeats 2000000 in
theorem lk_10 (C : lCx p l s mid meth c b L xs dC dI cA q sv qo) (hL : L ≤ 3072) (hi : i + 6 ≤ L) (hls : lv_has ls 7 (lvL b q qo i)) (hst : lSt s dC dI cA q qo x H locs) (hv : Inv x) (hcs : cells ≤ 601024 ∧ slots ≤ 7293033) (kk : ∀ (x' : xM) (H1 : Heap) (locs1 : List Loc), Inv x' → lSt s dC dI cA q qo x' H1 locs1 → W p l e room_1 s mid #[Value.ref b] below meth c H1 locs1 cells slots Q (F0 mid 1629 ls [])) : W p l e room_1 s mid #[Value.ref b] below meth c H locs cells slots Q (F0 mid 577 ls []) := by
  obtain ⟨hx, hb, hr, hml, hown, hts, -⟩ := id C.1
  have hown : s.vm.findClass RL = some mid.cls := hown
  refine l_a1 C dW_577 hls ?_
  refine l_arg C (k := 1) dW_578 dW_579 dW_581 dW_582 dW_583 (by decide) (by omega) hL hls hst ?_
  obtain ⟨XF, hx1, hm1⟩ := p_wall (xs (i + 1)) x hv
  refine l_call1 C (a := 0) (j := 115) (w := 930) (n := 1) (as := [.int (xs (i + 1))]) (rest := []) (d := 1200) dW_584 (by decide +kernel) rfl (by decide) (Nat.le_refl _) hx1 hls hst hcs (fun rv x1 H1 locs1 hp1 hst1 => ?_)
  obtain ⟨⟨z, rfl⟩, hp1⟩ := hp1
  refine lv_pop hx hb dW_587 rfl ?_
  refine l_a2 C dW_588 hls ?_
  refine l_arg C (k := 1) dW_589 dW_590 dW_592 dW_593 dW_594 (by decide) (by omega) hL hls hst1 ?_
  refine l_call1 C (a := 314) (j := 213) (w := 1744) (n := 1) (as := [.int (xs (i + 1))]) (rest := []) (d := 1200) dW_595 (by decide +kernel) rfl (by decide) (Nat.le_refl _) (hm1 _ _ hp1) hls hst1 hcs (fun rv x2 H2 locs2 hp2 hst2 => ?_)
  obtain ⟨rfl, hv2⟩ := hp2
  refine lv_pop hx hb dW_598 rfl ?_
  refine l_go C dW_599 (by decide) ?_
  exact kk x2 H2 locs2 hv2 hst2
set_option maxHeartbeats 2000000 in
theorem lk_11 (C : lCx p l s mid meth c b L xs dC dI cA q sv qo) (hL : L ≤ 3072) (hi : i + 6 ≤ L) (hls : lv_has ls 7 (lvL b q qo i)) (hst : lSt s dC dI cA q qo x H locs) (hv : Inv x) (hcs : cells ≤ 601024 ∧ slots ≤ 7293033) (kk : ∀ (x' : xM) (H1 : Heap) (locs1 : List Loc), Inv x' → lSt s dC dI cA q qo x' H1 locs1 → W p l e room_1 s mid #[Value.ref b] below meth c H1 locs1 cells slots Q (F0 mid 1629 ls [])) : W p l e room_1 s mid #[Value.ref b] below meth c H locs cells slots Q (F0 mid 602 ls []) := by
  obtain ⟨hx, hb, hr, hml, hown, hts, -⟩ := id C.1
  have hown : s.vm.findClass RL = some mid.cls := hown
  refine l_a1 C dW_602 hls ?_
  refine l_arg C (k := 1) dW_603 dW_604 dW_606 dW_607 dW_608 (by decide) (by omega) hL hls hst ?_
  obtain ⟨XF, hx1, hm1⟩ := p_lamp (xs (i + 1)) x hv
  refine l_call1 C (a := 0) (j := 116) (w := 934) (n := 1) (as := [.int (xs (i + 1))]) (rest := []) (d := 1200) dW_609 (by decide +kernel) rfl (by decide) (Nat.le_refl _) hx1 hls hst hcs (fun rv x1 H1 locs1 hp1 hst1 => ?_)
  obtain ⟨⟨z, rfl⟩, hp1⟩ := hp1
  refine lv_pop hx hb dW_612 rfl ?_
  refine l_a2 C dW_613 hls ?_
  refine l_arg C (k := 1) dW_614 dW_615 dW_617 dW_618 dW_619 (by decide) (by omega) hL hls hst1 ?_
  refine l_call1 C (a := 314) (j := 214) (w := 1752) (n := 1) (as := [.int (xs (i + 1))]) (rest := []) (d := 1200) dW_620 (by decide +kernel) rfl (by decide) (Nat.le_refl _) (hm1 _ _ hp1) hls hst1 hcs (fun rv x2 H2 locs2 hp2 hst2 => ?_)
  obtain ⟨rfl, hv2⟩ := hp2
  refine lv_pop hx hb dW_623 rfl ?_
  refine l_go C dW_624 (by decide) ?_
  exact kk x2 H2 locs2 hv2 hst2
set_option maxHeartbeats 2000000 in
theorem lk_12 (C : lCx p l s mid meth c b L xs dC dI cA q sv qo) (hL : L ≤ 3072) (hi : i + 6 ≤ L) (hls : lv_has ls 7 (lvL b q qo i)) (hst : lSt s dC dI cA q qo x H locs) (hv : Inv x) (hcs : cells ≤ 601024 ∧ slots ≤ 7293033) (kk : ∀ (x' : xM) (H1 : Heap) (locs1 : List Loc), Inv x' → lSt s dC dI cA q qo x' H1 locs1 → W p l e room_1 s mid #[Value.ref b] below meth c H1 locs1 cells slots Q (F0 mid 1629 ls [])) : W p l e room_1 s mid #[Value.ref b] below meth c H locs cells slots Q (F0 mid 627 ls []) := by
  obtain ⟨hx, hb, hr, hml, hown, hts, -⟩ := id C.1
  have hown : s.vm.findClass RL = some mid.cls := hown
  refine l_a1 C dW_627 hls ?_
  refine l_arg C (k := 1) dW_628 dW_629 dW_631 dW_632 dW_633 (by decide) (by omega) hL hls hst ?_
  refine l_arg C (k := 2) dW_634 dW_635 dW_637 dW_638 dW_639 (by decide) (by omega) hL hls hst ?_
  obtain ⟨XF, hx1, hm1⟩ := p_moves (xs (i + 1)) (xs (i + 2)) x hv
  refine l_call1 C (a := 0) (j := 117) (w := 938) (n := 2) (as := [.int (xs (i + 1)), .int (xs (i + 2))]) (rest := []) (d := 1200) dW_640 (by decide +kernel) rfl (by decide) (Nat.le_refl _) hx1 hls hst hcs (fun rv x1 H1 locs1 hp1 hst1 => ?_)
  obtain ⟨⟨z, rfl⟩, hp1⟩ := hp1
  refine lv_pop hx hb dW_643 rfl ?_
  refine l_a2 C dW_644 hls ?_
  refine l_arg C (k := 1) dW_645 dW_646 dW_648 dW_649 dW_650 (by decide) (by omega) hL hls hst1 ?_
  refine l_arg C (k := 2) dW_651 dW_652 dW_654 dW_655 dW_656 (by decide) (by omega) hL hls hst1 ?_
  refine l_call1 C (a := 314) (j := 215) (w := 1756) (n := 2) (as := [.int (xs (i + 1)), .int (xs (i + 2))]) (rest := []) (d := 1200) dW_657 (by decide +kernel) rfl (by decide) (Nat.le_refl _) (hm1 _ _ hp1) hls hst1 hcs (fun rv x2 H2 locs2 hp2 hst2 => ?_)
  obtain ⟨rfl, hv2⟩ := hp2
  refine lv_pop hx hb dW_660 rfl ?_
  refine l_go C dW_661 (by decide) ?_
  exact kk x2 H2 locs2 hv2 hst2
set_option maxHeartbeats 2000000 in
theorem lk_13 (C : lCx p l s mid meth c b L xs dC dI cA q sv qo) (hL : L ≤ 3072) (hi : i + 6 ≤ L) (hls : lv_has ls 7 (lvL b q qo i)) (hst : lSt s dC dI cA q qo x H locs) (hv : Inv x) (hcs : cells ≤ 601024 ∧ slots ≤ 7293033) (kk : ∀ (x' : xM) (H1 : Heap) (locs1 : List Loc), Inv x' → lSt s dC dI cA q qo x' H1 locs1 → W p l e room_1 s mid #[Value.ref b] below meth c H1 locs1 cells slots Q (F0 mid 1629 ls [])) : W p l e room_1 s mid #[Value.ref b] below meth c H locs cells slots Q (F0 mid 664 ls []) := by
  obtain ⟨hx, hb, hr, hml, hown, hts, -⟩ := id C.1
  have hown : s.vm.findClass RL = some mid.cls := hown
  refine l_a1 C dW_664 hls ?_
  refine l_arg C (k := 1) dW_665 dW_666 dW_668 dW_669 dW_670 (by decide) (by omega) hL hls hst ?_
  obtain ⟨XF, hx1, hm1⟩ := p_preach (xs (i + 1)) x hv
  refine l_call1 C (a := 0) (j := 118) (w := 946) (n := 1) (as := [.int (xs (i + 1))]) (rest := []) (d := 1200) dW_671 (by decide +kernel) rfl (by decide) (Nat.le_refl _) hx1 hls hst hcs (fun rv x1 H1 locs1 hp1 hst1 => ?_)
  obtain ⟨⟨z, rfl⟩, hp1⟩ := hp1
  refine lv_pop hx hb dW_674 rfl ?_
  refine l_a2 C dW_675 hls ?_
  refine l_arg C (k := 1) dW_676 dW_677 dW_679 dW_680 dW_681 (by decide) (by omega) hL hls hst1 ?_
  refine l_call1 C (a := 314) (j := 216) (w := 1760) (n := 1) (as := [.int (xs (i + 1))]) (rest := []) (d := 1200) dW_682 (by decide +kernel) rfl (by decide) (Nat.le_refl _) (hm1 _ _ hp1) hls hst1 hcs (fun rv x2 H2 locs2 hp2 hst2 => ?_)
  obtain ⟨rfl, hv2⟩ := hp2
  refine lv_pop hx hb dW_685 rfl ?_
  refine l_go C dW_686 (by decide) ?_
  exact kk x2 H2 locs2 hv2 hst2
set_option maxHeartbeats 2000000 in
theorem lk_14 (C : lCx p l s mid meth c b L xs dC dI cA q sv qo) (hL : L ≤ 3072) (hi : i + 6 ≤ L) (hls : lv_has ls 7 (lvL b q qo i)) (hst : lSt s dC dI cA q qo x H locs) (hv : Inv x) (hcs : cells ≤ 601024 ∧ slots ≤ 7293033) (kk : ∀ (x' : xM) (H1 : Heap) (locs1 : List Loc), Inv x' → lSt s dC dI cA q qo x' H1 locs1 → W p l e room_1 s mid #[Value.ref b] below meth c H1 locs1 cells slots Q (F0 mid 1629 ls [])) : W p l e room_1 s mid #[Value.ref b] below meth c H locs cells slots Q (F0 mid 689 ls []) := by
  obtain ⟨hx, hb, hr, hml, hown, hts, -⟩ := id C.1
  have hown : s.vm.findClass RL = some mid.cls := hown
  refine l_a1 C dW_689 hls ?_
  refine l_arg C (k := 1) dW_690 dW_691 dW_693 dW_694 dW_695 (by decide) (by omega) hL hls hst ?_
  obtain ⟨XF, hx1, hm1⟩ := p_give (xs (i + 1)) x hv
  refine l_call1 C (a := 0) (j := 119) (w := 950) (n := 1) (as := [.int (xs (i + 1))]) (rest := []) (d := 1200) dW_696 (by decide +kernel) rfl (by decide) (Nat.le_refl _) hx1 hls hst hcs (fun rv x1 H1 locs1 hp1 hst1 => ?_)
  obtain ⟨⟨z, rfl⟩, hp1⟩ := hp1
  refine lv_pop hx hb dW_699 rfl ?_
  refine l_a2 C dW_700 hls ?_
  refine l_arg C (k := 1) dW_701 dW_702 dW_704 dW_705 dW_706 (by decide) (by omega) hL hls hst1 ?_
  refine l_call1 C (a := 314) (j := 217) (w := 1764) (n := 1) (as := [.int (xs (i + 1))]) (rest := []) (d := 1200) dW_707 (by decide +kernel) rfl (by decide) (Nat.le_refl _) (hm1 _ _ hp1) hls hst1 hcs (fun rv x2 H2 locs2 hp2 hst2 => ?_)
  obtain ⟨rfl, hv2⟩ := hp2
  refine lv_pop hx hb dW_710 rfl ?_
  refine l_go C dW_711 (by decide) ?_
  exact kk x2 H2 locs2 hv2 hst2
set_option maxHeartbeats 2000000 in
theorem lk_15 (C : lCx p l s mid meth c b L xs dC dI cA q sv qo) (hL : L ≤ 3072) (hi : i + 6 ≤ L) (hls : lv_has ls 7 (lvL b q qo i)) (hst : lSt s dC dI cA q qo x H locs) (hv : Inv x) (hcs : cells ≤ 601024 ∧ slots ≤ 7293033) (kk : ∀ (x' : xM) (H1 : Heap) (locs1 : List Loc), Inv x' → lSt s dC dI cA q qo x' H1 locs1 → W p l e room_1 s mid #[Value.ref b] below meth c H1 locs1 cells slots Q (F0 mid 1629 ls [])) : W p l e room_1 s mid #[Value.ref b] below meth c H locs cells slots Q (F0 mid 714 ls []) := by
  obtain ⟨hx, hb, hr, hml, hown, hts, -⟩ := id C.1
  have hown : s.vm.findClass RL = some mid.cls := hown
  refine l_a1 C dW_714 hls ?_
  refine l_arg C (k := 1) dW_715 dW_716 dW_718 dW_719 dW_720 (by decide) (by omega) hL hls hst ?_
  refine l_arg C (k := 2) dW_721 dW_722 dW_724 dW_725 dW_726 (by decide) (by omega) hL hls hst ?_
  refine lv_i2l (v := (xs (i + 2)).toInt64) hx hb dW_727 rfl ?_
  refine lv_bipush (v := 32) hx hb dW_728 (by decide) ?_
  refine lv_lshl (v := ((xs (i + 2)).toInt64) <<< ((32 : Int32).toInt64 &&& 63)) hx hb dW_730 rfl ?_
  refine l_arg C (k := 3) dW_731 dW_732 dW_734 dW_735 dW_736 (by decide) (by omega) hL hls hst ?_
  refine lv_i2l (v := (xs (i + 3)).toInt64) hx hb dW_737 rfl ?_
  refine lv_ldc2 hx hb hown (hts (.constantLong "WallChapelsLaw" 88 4294967295) (List.mem_of_getElem? (i := 1966) (by decide +kernel))) dW_738 ?_
  refine lv_land hx hb dW_741 ?_
  refine lv_lor hx hb dW_742 ?_
  obtain ⟨XF, hx1, hm1⟩ := p_years (xs (i + 1)) ((((xs (i + 2)).toInt64) <<< ((32 : Int32).toInt64 &&& 63)) ||| (((xs (i + 3)).toInt64) &&& 4294967295)) x hv
  refine l_call1 C (a := 0) (j := 120) (w := 954) (n := 2) (as := [.int (xs (i + 1)), .long ((((xs (i + 2)).toInt64) <<< ((32 : Int32).toInt64 &&& 63)) ||| (((xs (i + 3)).toInt64) &&& 4294967295))]) (rest := []) (d := 1200) dW_743 (by decide +kernel) rfl (by decide) (Nat.le_refl _) hx1 hls hst hcs (fun rv x1 H1 locs1 hp1 hst1 => ?_)
  obtain ⟨⟨z, rfl⟩, hp1⟩ := hp1
  refine lv_pop hx hb dW_746 rfl ?_
  refine l_a2 C dW_747 hls ?_
  refine l_arg C (k := 1) dW_748 dW_749 dW_751 dW_752 dW_753 (by decide) (by omega) hL hls hst1 ?_
  refine l_arg C (k := 2) dW_754 dW_755 dW_757 dW_758 dW_759 (by decide) (by omega) hL hls hst1 ?_
  refine lv_i2l (v := (xs (i + 2)).toInt64) hx hb dW_760 rfl ?_
  refine lv_bipush (v := 32) hx hb dW_761 (by decide) ?_
  refine lv_lshl (v := ((xs (i + 2)).toInt64) <<< ((32 : Int32).toInt64 &&& 63)) hx hb dW_763 rfl ?_
  refine l_arg C (k := 3) dW_764 dW_765 dW_767 dW_768 dW_769 (by decide) (by omega) hL hls hst1 ?_
  refine lv_i2l (v := (xs (i + 3)).toInt64) hx hb dW_770 rfl ?_
  refine lv_ldc2 hx hb hown (hts (.constantLong "WallChapelsLaw" 88 4294967295) (List.mem_of_getElem? (i := 1966) (by decide +kernel))) dW_771 ?_
  refine lv_land hx hb dW_774 ?_
  refine lv_lor hx hb dW_775 ?_
  refine l_call1 C (a := 314) (j := 219) (w := 1769) (n := 2) (as := [.int (xs (i + 1)), .long ((((xs (i + 2)).toInt64) <<< ((32 : Int32).toInt64 &&& 63)) ||| (((xs (i + 3)).toInt64) &&& 4294967295))]) (rest := []) (d := 1200) dW_776 (by decide +kernel) rfl (by decide) (Nat.le_refl _) (hm1 _ _ hp1) hls hst1 hcs (fun rv x2 H2 locs2 hp2 hst2 => ?_)
  obtain ⟨rfl, hv2⟩ := hp2
  refine lv_pop hx hb dW_779 rfl ?_
  refine l_go C dW_780 (by decide) ?_
  exact kk x2 H2 locs2 hv2 hst2
set_option maxHeartbeats 2000000 in
theorem lk_16 (C : lCx p l s mid meth c b L xs dC dI cA q sv qo) (hL : L ≤ 3072) (hi : i + 6 ≤ L) (hls : lv_has ls 7 (lvL b q qo i)) (hst : lSt s dC dI cA q qo x H locs) (hv : Inv x) (hcs : cells ≤ 601024 ∧ slots ≤ 7293033) (kk : ∀ (x' : xM) (H1 : Heap) (locs1 : List Loc), Inv x' → lSt s dC dI cA q qo x' H1 locs1 → W p l e room_1 s mid #[Value.ref b] below meth c H1 locs1 cells slots Q (F0 mid 1629 ls [])) : W p l e room_1 s mid #[Value.ref b] below meth c H locs cells slots Q (F0 mid 783 ls []) := by
  obtain ⟨hx, hb, hr, hml, hown, hts, -⟩ := id C.1
  have hown : s.vm.findClass RL = some mid.cls := hown
  refine l_a1 C dW_783 hls ?_
  obtain ⟨XF, hx1, hm1⟩ := p_undo  x hv
  refine l_call1 C (a := 0) (j := 123) (w := 966) (n := 0) (as := []) (rest := []) (d := 1200) dW_784 (by decide +kernel) rfl (by decide) (Nat.le_refl _) hx1 hls hst hcs (fun rv x1 H1 locs1 hp1 hst1 => ?_)
  obtain ⟨⟨z, rfl⟩, hp1⟩ := hp1
  refine lv_pop hx hb dW_787 rfl ?_
  refine l_a2 C dW_788 hls ?_
  refine l_call1 C (a := 314) (j := 220) (w := 1780) (n := 0) (as := []) (rest := []) (d := 1200) dW_789 (by decide +kernel) rfl (by decide) (Nat.le_refl _) (hm1 _ _ hp1) hls hst1 hcs (fun rv x2 H2 locs2 hp2 hst2 => ?_)
  obtain ⟨rfl, hv2⟩ := hp2
  refine lv_pop hx hb dW_792 rfl ?_
  refine l_go C dW_793 (by decide) ?_
  exact kk x2 H2 locs2 hv2 hst2
set_option maxHeartbeats 2000000 in
theorem lk_17 (C : lCx p l s mid meth c b L xs dC dI cA q sv qo) (hL : L ≤ 3072) (hi : i + 6 ≤ L) (hls : lv_has ls 7 (lvL b q qo i)) (hst : lSt s dC dI cA q qo x H locs) (hv : Inv x) (hcs : cells ≤ 601024 ∧ slots ≤ 7293033) (kk : ∀ (x' : xM) (H1 : Heap) (locs1 : List Loc), Inv x' → lSt s dC dI cA q qo x' H1 locs1 → W p l e room_1 s mid #[Value.ref b] below meth c H1 locs1 cells slots Q (F0 mid 1629 ls [])) : W p l e room_1 s mid #[Value.ref b] below meth c H locs cells slots Q (F0 mid 796 ls []) := by
  obtain ⟨hx, hb, hr, hml, hown, hts, -⟩ := id C.1
  have hown : s.vm.findClass RL = some mid.cls := hown
  refine l_a1 C dW_796 hls ?_
  refine l_arg C (k := 1) dW_797 dW_798 dW_800 dW_801 dW_802 (by decide) (by omega) hL hls hst ?_
  refine l_arg C (k := 2) dW_803 dW_804 dW_806 dW_807 dW_808 (by decide) (by omega) hL hls hst ?_
  refine l_cp C (a := 0) (idx := 99) (w := 974) (n := 2) (vs := [.int (xs (i + 1)), .int (xs (i + 2))]) q215 (by decide) dW_809 dW_812 (by decide +kernel) rfl (by decide +kernel) (by decide +kernel) (fun z => trivial) ⟨aI_any _, aI_any _, trivial⟩ hv hls hst hcs (fun x1 H1 locs1 hv1 hst1 => ?_)
  refine l_a2 C dW_813 hls ?_
  refine l_arg C (k := 1) dW_814 dW_815 dW_817 dW_818 dW_819 (by decide) (by omega) hL hls hst1 ?_
  refine l_arg C (k := 2) dW_820 dW_821 dW_823 dW_824 dW_825 (by decide) (by omega) hL hls hst1 ?_
  refine l_cp C (a := 314) (idx := 102) (w := 1784) (n := 2) (vs := [.int (xs (i + 1)), .int (xs (i + 2))]) r142 (by decide) dW_826 dW_829 (by decide +kernel) rfl (by decide +kernel) (by decide +kernel) (fun z => z.2.1) ⟨aI_any _, aI_any _, trivial⟩ hv1 hls hst1 hcs (fun x2 H2 locs2 hv2 hst2 => ?_)
  refine l_go C dW_830 (by decide) ?_
  exact kk x2 H2 locs2 hv2 hst2
set_option maxHeartbeats 2000000 in
theorem lk_18 (C : lCx p l s mid meth c b L xs dC dI cA q sv qo) (hL : L ≤ 3072) (hi : i + 6 ≤ L) (hls : lv_has ls 7 (lvL b q qo i)) (hst : lSt s dC dI cA q qo x H locs) (hv : Inv x) (hcs : cells ≤ 601024 ∧ slots ≤ 7293033) (kk : ∀ (x' : xM) (H1 : Heap) (locs1 : List Loc), Inv x' → lSt s dC dI cA q qo x' H1 locs1 → W p l e room_1 s mid #[Value.ref b] below meth c H1 locs1 cells slots Q (F0 mid 1629 ls [])) : W p l e room_1 s mid #[Value.ref b] below meth c H locs cells slots Q (F0 mid 833 ls []) := by
  obtain ⟨hx, hb, hr, hml, hown, hts, -⟩ := id C.1
  have hown : s.vm.findClass RL = some mid.cls := hown
  refine l_a1 C dW_833 hls ?_
  refine l_arg C (k := 1) dW_834 dW_835 dW_837 dW_838 dW_839 (by decide) (by omega) hL hls hst ?_
  refine l_arg C (k := 2) dW_840 dW_841 dW_843 dW_844 dW_845 (by decide) (by omega) hL hls hst ?_
  obtain ⟨XF, hx1, hm1⟩ := p_walk (xs (i + 1)) (xs (i + 2)) x hv
  refine l_call1 C (a := 0) (j := 128) (w := 996) (n := 2) (as := [.int (xs (i + 1)), .int (xs (i + 2))]) (rest := []) (d := 1200) dW_846 (by decide +kernel) rfl (by decide) (Nat.le_refl _) hx1 hls hst hcs (fun rv x1 H1 locs1 hp1 hst1 => ?_)
  obtain ⟨⟨z, rfl⟩, hp1⟩ := hp1
  refine lv_pop hx hb dW_849 rfl ?_
  refine l_a2 C dW_850 hls ?_
  refine l_arg C (k := 1) dW_851 dW_852 dW_854 dW_855 dW_856 (by decide) (by omega) hL hls hst1 ?_
  refine l_arg C (k := 2) dW_857 dW_858 dW_860 dW_861 dW_862 (by decide) (by omega) hL hls hst1 ?_
  refine l_call1 C (a := 314) (j := 223) (w := 1788) (n := 2) (as := [.int (xs (i + 1)), .int (xs (i + 2))]) (rest := []) (d := 1200) dW_863 (by decide +kernel) rfl (by decide) (Nat.le_refl _) (hm1 _ _ hp1) hls hst1 hcs (fun rv x2 H2 locs2 hp2 hst2 => ?_)
  obtain ⟨rfl, hv2⟩ := hp2
  refine lv_pop hx hb dW_866 rfl ?_
  refine l_go C dW_867 (by decide) ?_
  exact kk x2 H2 locs2 hv2 hst2
set_option maxHeartbeats 2000000 in
theorem lk_19 (C : lCx p l s mid meth c b L xs dC dI cA q sv qo) (hL : L ≤ 3072) (hi : i + 6 ≤ L) (hls : lv_has ls 7 (lvL b q qo i)) (hst : lSt s dC dI cA q qo x H locs) (hv : Inv x) (hcs : cells ≤ 601024 ∧ slots ≤ 7293033) (kk : ∀ (x' : xM) (H1 : Heap) (locs1 : List Loc), Inv x' → lSt s dC dI cA q qo x' H1 locs1 → W p l e room_1 s mid #[Value.ref b] below meth c H1 locs1 cells slots Q (F0 mid 1629 ls [])) : W p l e room_1 s mid #[Value.ref b] below meth c H locs cells slots Q (F0 mid 870 ls []) := by
  obtain ⟨hx, hb, hr, hml, hown, hts, -⟩ := id C.1
  have hown : s.vm.findClass RL = some mid.cls := hown
  refine l_a1 C dW_870 hls ?_
  refine l_arg C (k := 1) dW_871 dW_872 dW_874 dW_875 dW_876 (by decide) (by omega) hL hls hst ?_
  refine l_arg C (k := 2) dW_877 dW_878 dW_880 dW_881 dW_882 (by decide) (by omega) hL hls hst ?_
  refine l_cp C (a := 0) (idx := 107) (w := 1000) (n := 2) (vs := [.int (xs (i + 1)), .int (xs (i + 2))]) q225 (by decide) dW_883 dW_886 (by decide +kernel) rfl (by decide +kernel) (by decide +kernel) (fun z => trivial) ⟨aI_any _, aI_any _, trivial⟩ hv hls hst hcs (fun x1 H1 locs1 hv1 hst1 => ?_)
  refine l_a2 C dW_887 hls ?_
  refine l_arg C (k := 1) dW_888 dW_889 dW_891 dW_892 dW_893 (by decide) (by omega) hL hls hst1 ?_
  refine l_arg C (k := 2) dW_894 dW_895 dW_897 dW_898 dW_899 (by decide) (by omega) hL hls hst1 ?_
  refine l_cp C (a := 314) (idx := 110) (w := 1797) (n := 2) (vs := [.int (xs (i + 1)), .int (xs (i + 2))]) r147 (by decide) dW_900 dW_903 (by decide +kernel) rfl (by decide +kernel) (by decide +kernel) (fun z => z.2.1) ⟨aI_any _, aI_any _, trivial⟩ hv1 hls hst1 hcs (fun x2 H2 locs2 hv2 hst2 => ?_)
  refine l_go C dW_904 (by decide) ?_
  exact kk x2 H2 locs2 hv2 hst2
set_option maxHeartbeats 2000000 in
theorem lk_20 (C : lCx p l s mid meth c b L xs dC dI cA q sv qo) (hL : L ≤ 3072) (hi : i + 6 ≤ L) (hls : lv_has ls 7 (lvL b q qo i)) (hst : lSt s dC dI cA q qo x H locs) (hv : Inv x) (hcs : cells ≤ 601024 ∧ slots ≤ 7293033) (kk : ∀ (x' : xM) (H1 : Heap) (locs1 : List Loc), Inv x' → lSt s dC dI cA q qo x' H1 locs1 → W p l e room_1 s mid #[Value.ref b] below meth c H1 locs1 cells slots Q (F0 mid 1629 ls [])) : W p l e room_1 s mid #[Value.ref b] below meth c H locs cells slots Q (F0 mid 907 ls []) := by
  obtain ⟨hx, hb, hr, hml, hown, hts, -⟩ := id C.1
  have hown : s.vm.findClass RL = some mid.cls := hown
  refine l_a1 C dW_907 hls ?_
  refine l_arg C (k := 1) dW_908 dW_909 dW_911 dW_912 dW_913 (by decide) (by omega) hL hls hst ?_
  refine l_arg C (k := 2) dW_914 dW_915 dW_917 dW_918 dW_919 (by decide) (by omega) hL hls hst ?_
  refine l_cp C (a := 0) (idx := 111) (w := 1012) (n := 2) (vs := [.int (xs (i + 1)), .int (xs (i + 2))]) q226 (by decide) dW_920 dW_923 (by decide +kernel) rfl (by decide +kernel) (by decide +kernel) (fun z => trivial) ⟨aI_any _, aI_any _, trivial⟩ hv hls hst hcs (fun x1 H1 locs1 hv1 hst1 => ?_)
  refine l_a2 C dW_924 hls ?_
  refine l_arg C (k := 1) dW_925 dW_926 dW_928 dW_929 dW_930 (by decide) (by omega) hL hls hst1 ?_
  refine l_arg C (k := 2) dW_931 dW_932 dW_934 dW_935 dW_936 (by decide) (by omega) hL hls hst1 ?_
  refine l_cp C (a := 314) (idx := 114) (w := 1805) (n := 2) (vs := [.int (xs (i + 1)), .int (xs (i + 2))]) r148 (by decide) dW_937 dW_940 (by decide +kernel) rfl (by decide +kernel) (by decide +kernel) (fun z => z.2.1) ⟨aI_any _, aI_any _, trivial⟩ hv1 hls hst1 hcs (fun x2 H2 locs2 hv2 hst2 => ?_)
  refine l_go C dW_941 (by decide) ?_
  exact kk x2 H2 locs2 hv2 hst2
set_option maxHeartbeats 2000000 in
theorem lk_21 (C : lCx p l s mid meth c b L xs dC dI cA q sv qo) (hL : L ≤ 3072) (hi : i + 6 ≤ L) (hls : lv_has ls 7 (lvL b q qo i)) (hst : lSt s dC dI cA q qo x H locs) (hv : Inv x) (hcs : cells ≤ 601024 ∧ slots ≤ 7293033) (kk : ∀ (x' : xM) (H1 : Heap) (locs1 : List Loc), Inv x' → lSt s dC dI cA q qo x' H1 locs1 → W p l e room_1 s mid #[Value.ref b] below meth c H1 locs1 cells slots Q (F0 mid 1629 ls [])) : W p l e room_1 s mid #[Value.ref b] below meth c H locs cells slots Q (F0 mid 944 ls []) := by
  obtain ⟨hx, hb, hr, hml, hown, hts, -⟩ := id C.1
  have hown : s.vm.findClass RL = some mid.cls := hown
  refine l_a1 C dW_944 hls ?_
  refine l_arg C (k := 1) dW_945 dW_946 dW_948 dW_949 dW_950 (by decide) (by omega) hL hls hst ?_
  refine l_arg C (k := 2) dW_951 dW_952 dW_954 dW_955 dW_956 (by decide) (by omega) hL hls hst ?_
  refine l_cp C (a := 0) (idx := 115) (w := 1018) (n := 2) (vs := [.int (xs (i + 1)), .int (xs (i + 2))]) q229 (by decide) dW_957 dW_960 (by decide +kernel) rfl (by decide +kernel) (by decide +kernel) (fun z => trivial) ⟨aI_any _, aI_any _, trivial⟩ hv hls hst hcs (fun x1 H1 locs1 hv1 hst1 => ?_)
  refine l_a2 C dW_961 hls ?_
  refine l_arg C (k := 1) dW_962 dW_963 dW_965 dW_966 dW_967 (by decide) (by omega) hL hls hst1 ?_
  refine l_arg C (k := 2) dW_968 dW_969 dW_971 dW_972 dW_973 (by decide) (by omega) hL hls hst1 ?_
  refine l_cp C (a := 314) (idx := 118) (w := 1809) (n := 2) (vs := [.int (xs (i + 1)), .int (xs (i + 2))]) r149 (by decide) dW_974 dW_977 (by decide +kernel) rfl (by decide +kernel) (by decide +kernel) (fun z => z.2.1) ⟨aI_any _, aI_any _, trivial⟩ hv1 hls hst1 hcs (fun x2 H2 locs2 hv2 hst2 => ?_)
  refine l_go C dW_978 (by decide) ?_
  exact kk x2 H2 locs2 hv2 hst2
set_option maxHeartbeats 2000000 in
theorem lk_22 (C : lCx p l s mid meth c b L xs dC dI cA q sv qo) (hL : L ≤ 3072) (hi : i + 6 ≤ L) (hls : lv_has ls 7 (lvL b q qo i)) (hst : lSt s dC dI cA q qo x H locs) (hv : Inv x) (hcs : cells ≤ 601024 ∧ slots ≤ 7293033) (kk : ∀ (x' : xM) (H1 : Heap) (locs1 : List Loc), Inv x' → lSt s dC dI cA q qo x' H1 locs1 → W p l e room_1 s mid #[Value.ref b] below meth c H1 locs1 cells slots Q (F0 mid 1629 ls [])) : W p l e room_1 s mid #[Value.ref b] below meth c H locs cells slots Q (F0 mid 981 ls []) := by
  obtain ⟨hx, hb, hr, hml, hown, hts, -⟩ := id C.1
  have hown : s.vm.findClass RL = some mid.cls := hown
  refine l_a1 C dW_981 hls ?_
  refine l_arg C (k := 1) dW_982 dW_983 dW_985 dW_986 dW_987 (by decide) (by omega) hL hls hst ?_
  refine l_arg C (k := 2) dW_988 dW_989 dW_991 dW_992 dW_993 (by decide) (by omega) hL hls hst ?_
  refine l_cp C (a := 0) (idx := 119) (w := 1030) (n := 2) (vs := [.int (xs (i + 1)), .int (xs (i + 2))]) q240 (by decide) dW_994 dW_997 (by decide +kernel) rfl (by decide +kernel) (by decide +kernel) (fun z => trivial) ⟨aI_any _, aI_any _, trivial⟩ hv hls hst hcs (fun x1 H1 locs1 hv1 hst1 => ?_)
  refine l_a2 C dW_998 hls ?_
  refine l_arg C (k := 1) dW_999 dW_1000 dW_1002 dW_1003 dW_1004 (by decide) (by omega) hL hls hst1 ?_
  refine l_arg C (k := 2) dW_1005 dW_1006 dW_1008 dW_1009 dW_1010 (by decide) (by omega) hL hls hst1 ?_
  refine l_cp C (a := 314) (idx := 122) (w := 1817) (n := 2) (vs := [.int (xs (i + 1)), .int (xs (i + 2))]) r150 (by decide) dW_1011 dW_1014 (by decide +kernel) rfl (by decide +kernel) (by decide +kernel) (fun z => z.2.1) ⟨aI_any _, aI_any _, trivial⟩ hv1 hls hst1 hcs (fun x2 H2 locs2 hv2 hst2 => ?_)
  refine l_go C dW_1015 (by decide) ?_
  exact kk x2 H2 locs2 hv2 hst2
set_option maxHeartbeats 2000000 in
theorem lk_23 (C : lCx p l s mid meth c b L xs dC dI cA q sv qo) (hL : L ≤ 3072) (hi : i + 6 ≤ L) (hls : lv_has ls 7 (lvL b q qo i)) (hst : lSt s dC dI cA q qo x H locs) (hv : Inv x) (hcs : cells ≤ 601024 ∧ slots ≤ 7293033) (kk : ∀ (x' : xM) (H1 : Heap) (locs1 : List Loc), Inv x' → lSt s dC dI cA q qo x' H1 locs1 → W p l e room_1 s mid #[Value.ref b] below meth c H1 locs1 cells slots Q (F0 mid 1629 ls [])) : W p l e room_1 s mid #[Value.ref b] below meth c H locs cells slots Q (F0 mid 1018 ls []) := by
  obtain ⟨hx, hb, hr, hml, hown, hts, -⟩ := id C.1
  have hown : s.vm.findClass RL = some mid.cls := hown
  refine l_a1 C dW_1018 hls ?_
  refine l_arg C (k := 1) dW_1019 dW_1020 dW_1022 dW_1023 dW_1024 (by decide) (by omega) hL hls hst ?_
  refine l_cp C (a := 0) (idx := 123) (w := 1067) (n := 1) (vs := [.int (xs (i + 1))]) q248 (by decide) dW_1025 dW_1028 (by decide +kernel) rfl (by decide +kernel) (by decide +kernel) (fun z => trivial) ⟨aI_any _, trivial⟩ hv hls hst hcs (fun x1 H1 locs1 hv1 hst1 => ?_)
  refine l_a2 C dW_1029 hls ?_
  refine l_arg C (k := 1) dW_1030 dW_1031 dW_1033 dW_1034 dW_1035 (by decide) (by omega) hL hls hst1 ?_
  refine l_cp C (a := 314) (idx := 126) (w := 1825) (n := 1) (vs := [.int (xs (i + 1))]) r155 (by decide) dW_1036 dW_1039 (by decide +kernel) rfl (by decide +kernel) (by decide +kernel) (fun z => z.2.1) ⟨aI_any _, trivial⟩ hv1 hls hst1 hcs (fun x2 H2 locs2 hv2 hst2 => ?_)
  refine l_go C dW_1040 (by decide) ?_
  exact kk x2 H2 locs2 hv2 hst2
set_option maxHeartbeats 2000000 in
theorem lk_24 (C : lCx p l s mid meth c b L xs dC dI cA q sv qo) (hL : L ≤ 3072) (hi : i + 6 ≤ L) (hls : lv_has ls 7 (lvL b q qo i)) (hst : lSt s dC dI cA q qo x H locs) (hv : Inv x) (hcs : cells ≤ 601024 ∧ slots ≤ 7293033) (kk : ∀ (x' : xM) (H1 : Heap) (locs1 : List Loc), Inv x' → lSt s dC dI cA q qo x' H1 locs1 → W p l e room_1 s mid #[Value.ref b] below meth c H1 locs1 cells slots Q (F0 mid 1629 ls [])) : W p l e room_1 s mid #[Value.ref b] below meth c H locs cells slots Q (F0 mid 1043 ls []) := by
  obtain ⟨hx, hb, hr, hml, hown, hts, -⟩ := id C.1
  have hown : s.vm.findClass RL = some mid.cls := hown
  refine l_a1 C dW_1043 hls ?_
  refine l_arg C (k := 1) dW_1044 dW_1045 dW_1047 dW_1048 dW_1049 (by decide) (by omega) hL hls hst ?_
  refine l_arg C (k := 2) dW_1050 dW_1051 dW_1053 dW_1054 dW_1055 (by decide) (by omega) hL hls hst ?_
  refine l_cp C (a := 0) (idx := 127) (w := 1071) (n := 2) (vs := [.int (xs (i + 1)), .int (xs (i + 2))]) q249 (by decide) dW_1056 dW_1059 (by decide +kernel) rfl (by decide +kernel) (by decide +kernel) (fun z => trivial) ⟨aI_any _, aI_any _, trivial⟩ hv hls hst hcs (fun x1 H1 locs1 hv1 hst1 => ?_)
  refine l_a2 C dW_1060 hls ?_
  refine l_arg C (k := 1) dW_1061 dW_1062 dW_1064 dW_1065 dW_1066 (by decide) (by omega) hL hls hst1 ?_
  refine l_arg C (k := 2) dW_1067 dW_1068 dW_1070 dW_1071 dW_1072 (by decide) (by omega) hL hls hst1 ?_
  refine l_cp C (a := 314) (idx := 130) (w := 1832) (n := 2) (vs := [.int (xs (i + 1)), .int (xs (i + 2))]) r157 (by decide) dW_1073 dW_1076 (by decide +kernel) rfl (by decide +kernel) (by decide +kernel) (fun z => z.2.1) ⟨aI_any _, aI_any _, trivial⟩ hv1 hls hst1 hcs (fun x2 H2 locs2 hv2 hst2 => ?_)
  refine l_go C dW_1077 (by decide) ?_
  exact kk x2 H2 locs2 hv2 hst2
set_option maxHeartbeats 2000000 in
theorem lk_25 (C : lCx p l s mid meth c b L xs dC dI cA q sv qo) (hL : L ≤ 3072) (hi : i + 6 ≤ L) (hls : lv_has ls 7 (lvL b q qo i)) (hst : lSt s dC dI cA q qo x H locs) (hv : Inv x) (hcs : cells ≤ 601024 ∧ slots ≤ 7293033) (kk : ∀ (x' : xM) (H1 : Heap) (locs1 : List Loc), Inv x' → lSt s dC dI cA q qo x' H1 locs1 → W p l e room_1 s mid #[Value.ref b] below meth c H1 locs1 cells slots Q (F0 mid 1629 ls [])) : W p l e room_1 s mid #[Value.ref b] below meth c H locs cells slots Q (F0 mid 1080 ls []) := by
  obtain ⟨hx, hb, hr, hml, hown, hts, -⟩ := id C.1
  have hown : s.vm.findClass RL = some mid.cls := hown
  refine l_a1 C dW_1080 hls ?_
  refine l_arg C (k := 1) dW_1081 dW_1082 dW_1084 dW_1085 dW_1086 (by decide) (by omega) hL hls hst ?_
  refine l_arg C (k := 2) dW_1087 dW_1088 dW_1090 dW_1091 dW_1092 (by decide) (by omega) hL hls hst ?_
  refine lv_tern (a := 1) (b := 0) hx hb dW_1093 (by decide) dW_1096 (by decide) dW_1097 (by decide) dW_1100 (by decide) rfl (fun y1 ey1 => ?_)
  obtain ⟨XF, hx1, hm1⟩ := p_seen (xs (i + 1)) y1 (bo_t ey1) x hv
  refine l_call1 C (a := 0) (j := 136) (w := 1075) (n := 2) (as := [.int (xs (i + 1)), .int y1]) (rest := []) (d := 1200) dW_1101 (by decide +kernel) rfl (by decide) (Nat.le_refl _) hx1 hls hst hcs (fun rv x1 H1 locs1 hp1 hst1 => ?_)
  obtain ⟨⟨z, rfl⟩, hp1⟩ := hp1
  refine lv_pop hx hb dW_1104 rfl ?_
  refine l_a2 C dW_1105 hls ?_
  refine l_arg C (k := 1) dW_1106 dW_1107 dW_1109 dW_1110 dW_1111 (by decide) (by omega) hL hls hst1 ?_
  refine l_arg C (k := 2) dW_1112 dW_1113 dW_1115 dW_1116 dW_1117 (by decide) (by omega) hL hls hst1 ?_
  refine lv_tern (a := 1) (b := 0) hx hb dW_1118 (by decide) dW_1121 (by decide) dW_1122 (by decide) dW_1125 (by decide) rfl (fun y2 ey2 => ?_)
  rw [show y2 = y1 by rw [ey2, ey1]]
  refine l_call1 C (a := 314) (j := 233) (w := 1837) (n := 2) (as := [.int (xs (i + 1)), .int y1]) (rest := []) (d := 1200) dW_1126 (by decide +kernel) rfl (by decide) (Nat.le_refl _) (hm1 _ _ hp1) hls hst1 hcs (fun rv x2 H2 locs2 hp2 hst2 => ?_)
  obtain ⟨rfl, hv2⟩ := hp2
  refine lv_pop hx hb dW_1129 rfl ?_
  refine l_go C dW_1130 (by decide) ?_
  exact kk x2 H2 locs2 hv2 hst2
set_option maxHeartbeats 2000000 in
theorem lk_26 (C : lCx p l s mid meth c b L xs dC dI cA q sv qo) (hL : L ≤ 3072) (hi : i + 6 ≤ L) (hls : lv_has ls 7 (lvL b q qo i)) (hst : lSt s dC dI cA q qo x H locs) (hv : Inv x) (hcs : cells ≤ 601024 ∧ slots ≤ 7293033) (kk : ∀ (x' : xM) (H1 : Heap) (locs1 : List Loc), Inv x' → lSt s dC dI cA q qo x' H1 locs1 → W p l e room_1 s mid #[Value.ref b] below meth c H1 locs1 cells slots Q (F0 mid 1629 ls [])) : W p l e room_1 s mid #[Value.ref b] below meth c H locs cells slots Q (F0 mid 1133 ls []) := by
  obtain ⟨hx, hb, hr, hml, hown, hts, -⟩ := id C.1
  have hown : s.vm.findClass RL = some mid.cls := hown
  refine l_a1 C dW_1133 hls ?_
  refine l_arg C (k := 1) dW_1134 dW_1135 dW_1137 dW_1138 dW_1139 (by decide) (by omega) hL hls hst ?_
  refine l_cp C (a := 0) (idx := 136) (w := 1083) (n := 1) (vs := [.int (xs (i + 1))]) q254 (by decide) dW_1140 dW_1143 (by decide +kernel) rfl (by decide +kernel) (by decide +kernel) (fun z => trivial) ⟨aI_any _, trivial⟩ hv hls hst hcs (fun x1 H1 locs1 hv1 hst1 => ?_)
  refine l_a2 C dW_1144 hls ?_
  refine l_arg C (k := 1) dW_1145 dW_1146 dW_1148 dW_1149 dW_1150 (by decide) (by omega) hL hls hst1 ?_
  refine l_cp C (a := 314) (idx := 139) (w := 1841) (n := 1) (vs := [.int (xs (i + 1))]) r163 (by decide) dW_1151 dW_1154 (by decide +kernel) rfl (by decide +kernel) (by decide +kernel) (fun z => z.2.1) ⟨aI_any _, trivial⟩ hv1 hls hst1 hcs (fun x2 H2 locs2 hv2 hst2 => ?_)
  refine l_go C dW_1155 (by decide) ?_
  exact kk x2 H2 locs2 hv2 hst2
set_option maxHeartbeats 2000000 in
theorem lk_27 (C : lCx p l s mid meth c b L xs dC dI cA q sv qo) (hL : L ≤ 3072) (hi : i + 6 ≤ L) (hls : lv_has ls 7 (lvL b q qo i)) (hst : lSt s dC dI cA q qo x H locs) (hv : Inv x) (hcs : cells ≤ 601024 ∧ slots ≤ 7293033) (kk : ∀ (x' : xM) (H1 : Heap) (locs1 : List Loc), Inv x' → lSt s dC dI cA q qo x' H1 locs1 → W p l e room_1 s mid #[Value.ref b] below meth c H1 locs1 cells slots Q (F0 mid 1629 ls [])) : W p l e room_1 s mid #[Value.ref b] below meth c H locs cells slots Q (F0 mid 1158 ls []) := by
  obtain ⟨hx, hb, hr, hml, hown, hts, -⟩ := id C.1
  have hown : s.vm.findClass RL = some mid.cls := hown
  refine l_a1 C dW_1158 hls ?_
  refine l_cp C (a := 0) (idx := 140) (w := 1097) (n := 0) (vs := []) q257 (by decide) dW_1159 dW_1162 (by decide +kernel) rfl (by decide +kernel) (by decide +kernel) (fun z => trivial) trivial hv hls hst hcs (fun x1 H1 locs1 hv1 hst1 => ?_)
  refine l_a2 C dW_1163 hls ?_
  refine l_cp C (a := 314) (idx := 143) (w := 1857) (n := 0) (vs := []) r171 (by decide) dW_1164 dW_1167 (by decide +kernel) rfl (by decide +kernel) (by decide +kernel) (fun z => z.2.1) trivial hv1 hls hst1 hcs (fun x2 H2 locs2 hv2 hst2 => ?_)
  refine l_go C dW_1168 (by decide) ?_
  exact kk x2 H2 locs2 hv2 hst2
set_option maxHeartbeats 2000000 in
theorem lk_28 (C : lCx p l s mid meth c b L xs dC dI cA q sv qo) (hL : L ≤ 3072) (hi : i + 6 ≤ L) (hls : lv_has ls 7 (lvL b q qo i)) (hst : lSt s dC dI cA q qo x H locs) (hv : Inv x) (hcs : cells ≤ 601024 ∧ slots ≤ 7293033) (kk : ∀ (x' : xM) (H1 : Heap) (locs1 : List Loc), Inv x' → lSt s dC dI cA q qo x' H1 locs1 → W p l e room_1 s mid #[Value.ref b] below meth c H1 locs1 cells slots Q (F0 mid 1629 ls [])) : W p l e room_1 s mid #[Value.ref b] below meth c H locs cells slots Q (F0 mid 1171 ls []) := by
  obtain ⟨hx, hb, hr, hml, hown, hts, -⟩ := id C.1
  have hown : s.vm.findClass RL = some mid.cls := hown
  refine l_a1 C dW_1171 hls ?_
  refine l_arg C (k := 1) dW_1172 dW_1173 dW_1175 dW_1176 dW_1177 (by decide) (by omega) hL hls hst ?_
  refine l_cp C (a := 0) (idx := 144) (w := 1108) (n := 1) (vs := [.int (xs (i + 1))]) q258 (by decide) dW_1178 dW_1181 (by decide +kernel) rfl (by decide +kernel) (by decide +kernel) (fun z => trivial) ⟨aI_any _, trivial⟩ hv hls hst hcs (fun x1 H1 locs1 hv1 hst1 => ?_)
  refine l_a2 C dW_1182 hls ?_
  refine l_arg C (k := 1) dW_1183 dW_1184 dW_1186 dW_1187 dW_1188 (by decide) (by omega) hL hls hst1 ?_
  refine l_cp C (a := 314) (idx := 147) (w := 1862) (n := 1) (vs := [.int (xs (i + 1))]) r173 (by decide) dW_1189 dW_1192 (by decide +kernel) rfl (by decide +kernel) (by decide +kernel) (fun z => z.2.1) ⟨aI_any _, trivial⟩ hv1 hls hst1 hcs (fun x2 H2 locs2 hv2 hst2 => ?_)
  refine l_go C dW_1193 (by decide) ?_
  exact kk x2 H2 locs2 hv2 hst2
set_option maxHeartbeats 2000000 in
theorem lk_29 (C : lCx p l s mid meth c b L xs dC dI cA q sv qo) (hL : L ≤ 3072) (hi : i + 6 ≤ L) (hls : lv_has ls 7 (lvL b q qo i)) (hst : lSt s dC dI cA q qo x H locs) (hv : Inv x) (hcs : cells ≤ 601024 ∧ slots ≤ 7293033) (kk : ∀ (x' : xM) (H1 : Heap) (locs1 : List Loc), Inv x' → lSt s dC dI cA q qo x' H1 locs1 → W p l e room_1 s mid #[Value.ref b] below meth c H1 locs1 cells slots Q (F0 mid 1629 ls [])) : W p l e room_1 s mid #[Value.ref b] below meth c H locs cells slots Q (F0 mid 1196 ls []) := by
  obtain ⟨hx, hb, hr, hml, hown, hts, -⟩ := id C.1
  have hown : s.vm.findClass RL = some mid.cls := hown
  refine l_a1 C dW_1196 hls ?_
  refine l_arg C (k := 1) dW_1197 dW_1198 dW_1200 dW_1201 dW_1202 (by decide) (by omega) hL hls hst ?_
  refine l_arg C (k := 2) dW_1203 dW_1204 dW_1206 dW_1207 dW_1208 (by decide) (by omega) hL hls hst ?_
  refine l_cp C (a := 0) (idx := 148) (w := 1113) (n := 2) (vs := [.int (xs (i + 1)), .int (xs (i + 2))]) q259 (by decide) dW_1209 dW_1212 (by decide +kernel) rfl (by decide +kernel) (by decide +kernel) (fun z => trivial) ⟨aI_any _, aI_any _, trivial⟩ hv hls hst hcs (fun x1 H1 locs1 hv1 hst1 => ?_)
  refine l_a2 C dW_1213 hls ?_
  refine l_arg C (k := 1) dW_1214 dW_1215 dW_1217 dW_1218 dW_1219 (by decide) (by omega) hL hls hst1 ?_
  refine l_arg C (k := 2) dW_1220 dW_1221 dW_1223 dW_1224 dW_1225 (by decide) (by omega) hL hls hst1 ?_
  refine l_cp C (a := 314) (idx := 151) (w := 1866) (n := 2) (vs := [.int (xs (i + 1)), .int (xs (i + 2))]) r174 (by decide) dW_1226 dW_1229 (by decide +kernel) rfl (by decide +kernel) (by decide +kernel) (fun z => z.2.1) ⟨aI_any _, aI_any _, trivial⟩ hv1 hls hst1 hcs (fun x2 H2 locs2 hv2 hst2 => ?_)
  refine l_go C dW_1230 (by decide) ?_
  exact kk x2 H2 locs2 hv2 hst2
set_option maxHeartbeats 2000000 in
theorem lk_30 (C : lCx p l s mid meth c b L xs dC dI cA q sv qo) (hL : L ≤ 3072) (hi : i + 6 ≤ L) (hls : lv_has ls 7 (lvL b q qo i)) (hst : lSt s dC dI cA q qo x H locs) (hv : Inv x) (hcs : cells ≤ 601024 ∧ slots ≤ 7293033) (kk : ∀ (x' : xM) (H1 : Heap) (locs1 : List Loc), Inv x' → lSt s dC dI cA q qo x' H1 locs1 → W p l e room_1 s mid #[Value.ref b] below meth c H1 locs1 cells slots Q (F0 mid 1629 ls [])) : W p l e room_1 s mid #[Value.ref b] below meth c H locs cells slots Q (F0 mid 1233 ls []) := by
  obtain ⟨hx, hb, hr, hml, hown, hts, -⟩ := id C.1
  have hown : s.vm.findClass RL = some mid.cls := hown
  refine l_a1 C dW_1233 hls ?_
  refine l_arg C (k := 1) dW_1234 dW_1235 dW_1237 dW_1238 dW_1239 (by decide) (by omega) hL hls hst ?_
  refine l_arg C (k := 2) dW_1240 dW_1241 dW_1243 dW_1244 dW_1245 (by decide) (by omega) hL hls hst ?_
  refine l_cp C (a := 0) (idx := 152) (w := 1117) (n := 2) (vs := [.int (xs (i + 1)), .int (xs (i + 2))]) q260 (by decide) dW_1246 dW_1249 (by decide +kernel) rfl (by decide +kernel) (by decide +kernel) (fun z => trivial) ⟨aI_any _, aI_any _, trivial⟩ hv hls hst hcs (fun x1 H1 locs1 hv1 hst1 => ?_)
  refine l_a2 C dW_1250 hls ?_
  refine l_arg C (k := 1) dW_1251 dW_1252 dW_1254 dW_1255 dW_1256 (by decide) (by omega) hL hls hst1 ?_
  refine l_arg C (k := 2) dW_1257 dW_1258 dW_1260 dW_1261 dW_1262 (by decide) (by omega) hL hls hst1 ?_
  refine l_cp C (a := 314) (idx := 155) (w := 1874) (n := 2) (vs := [.int (xs (i + 1)), .int (xs (i + 2))]) r175 (by decide) dW_1263 dW_1266 (by decide +kernel) rfl (by decide +kernel) (by decide +kernel) (fun z => z.2.1) ⟨aI_any _, aI_any _, trivial⟩ hv1 hls hst1 hcs (fun x2 H2 locs2 hv2 hst2 => ?_)
  refine l_go C dW_1267 (by decide) ?_
  exact kk x2 H2 locs2 hv2 hst2
set_option maxHeartbeats 2000000 in
theorem lk_31 (C : lCx p l s mid meth c b L xs dC dI cA q sv qo) (hL : L ≤ 3072) (hi : i + 6 ≤ L) (hls : lv_has ls 7 (lvL b q qo i)) (hst : lSt s dC dI cA q qo x H locs) (hv : Inv x) (hcs : cells ≤ 601024 ∧ slots ≤ 7293033) (kk : ∀ (x' : xM) (H1 : Heap) (locs1 : List Loc), Inv x' → lSt s dC dI cA q qo x' H1 locs1 → W p l e room_1 s mid #[Value.ref b] below meth c H1 locs1 cells slots Q (F0 mid 1629 ls [])) : W p l e room_1 s mid #[Value.ref b] below meth c H locs cells slots Q (F0 mid 1270 ls []) := by
  obtain ⟨hx, hb, hr, hml, hown, hts, -⟩ := id C.1
  have hown : s.vm.findClass RL = some mid.cls := hown
  refine l_a1 C dW_1270 hls ?_
  refine l_arg C (k := 1) dW_1271 dW_1272 dW_1274 dW_1275 dW_1276 (by decide) (by omega) hL hls hst ?_
  refine l_cp C (a := 0) (idx := 156) (w := 1122) (n := 1) (vs := [.int (xs (i + 1))]) q261 (by decide) dW_1277 dW_1280 (by decide +kernel) rfl (by decide +kernel) (by decide +kernel) (fun z => trivial) ⟨aI_any _, trivial⟩ hv hls hst hcs (fun x1 H1 locs1 hv1 hst1 => ?_)
  refine l_a2 C dW_1281 hls ?_
  refine l_arg C (k := 1) dW_1282 dW_1283 dW_1285 dW_1286 dW_1287 (by decide) (by omega) hL hls hst1 ?_
  refine l_cp C (a := 314) (idx := 159) (w := 1878) (n := 1) (vs := [.int (xs (i + 1))]) r176 (by decide) dW_1288 dW_1291 (by decide +kernel) rfl (by decide +kernel) (by decide +kernel) (fun z => z.2.1) ⟨aI_any _, trivial⟩ hv1 hls hst1 hcs (fun x2 H2 locs2 hv2 hst2 => ?_)
  refine l_go C dW_1292 (by decide) ?_
  exact kk x2 H2 locs2 hv2 hst2
set_option maxHeartbeats 2000000 in
theorem lk_32 (C : lCx p l s mid meth c b L xs dC dI cA q sv qo) (hL : L ≤ 3072) (hi : i + 6 ≤ L) (hls : lv_has ls 7 (lvL b q qo i)) (hst : lSt s dC dI cA q qo x H locs) (hv : Inv x) (hcs : cells ≤ 601024 ∧ slots ≤ 7293033) (kk : ∀ (x' : xM) (H1 : Heap) (locs1 : List Loc), Inv x' → lSt s dC dI cA q qo x' H1 locs1 → W p l e room_1 s mid #[Value.ref b] below meth c H1 locs1 cells slots Q (F0 mid 1629 ls [])) : W p l e room_1 s mid #[Value.ref b] below meth c H locs cells slots Q (F0 mid 1295 ls []) := by
  obtain ⟨hx, hb, hr, hml, hown, hts, -⟩ := id C.1
  have hown : s.vm.findClass RL = some mid.cls := hown
  refine l_a1 C dW_1295 hls ?_
  refine l_arg C (k := 1) dW_1296 dW_1297 dW_1299 dW_1300 dW_1301 (by decide) (by omega) hL hls hst ?_
  refine l_cp C (a := 0) (idx := 160) (w := 1127) (n := 1) (vs := [.int (xs (i + 1))]) q262 (by decide) dW_1302 dW_1305 (by decide +kernel) rfl (by decide +kernel) (by decide +kernel) (fun z => trivial) ⟨aI_any _, trivial⟩ hv hls hst hcs (fun x1 H1 locs1 hv1 hst1 => ?_)
  refine l_a2 C dW_1306 hls ?_
  refine l_arg C (k := 1) dW_1307 dW_1308 dW_1310 dW_1311 dW_1312 (by decide) (by omega) hL hls hst1 ?_
  refine l_cp C (a := 314) (idx := 163) (w := 1882) (n := 1) (vs := [.int (xs (i + 1))]) r177 (by decide) dW_1313 dW_1316 (by decide +kernel) rfl (by decide +kernel) (by decide +kernel) (fun z => z.2.1) ⟨aI_any _, trivial⟩ hv1 hls hst1 hcs (fun x2 H2 locs2 hv2 hst2 => ?_)
  refine l_go C dW_1317 (by decide) ?_
  exact kk x2 H2 locs2 hv2 hst2
set_option maxHeartbeats 2000000 in
theorem lk_33 (C : lCx p l s mid meth c b L xs dC dI cA q sv qo) (hL : L ≤ 3072) (hi : i + 6 ≤ L) (hls : lv_has ls 7 (lvL b q qo i)) (hst : lSt s dC dI cA q qo x H locs) (hv : Inv x) (hcs : cells ≤ 601024 ∧ slots ≤ 7293033) (kk : ∀ (x' : xM) (H1 : Heap) (locs1 : List Loc), Inv x' → lSt s dC dI cA q qo x' H1 locs1 → W p l e room_1 s mid #[Value.ref b] below meth c H1 locs1 cells slots Q (F0 mid 1629 ls [])) : W p l e room_1 s mid #[Value.ref b] below meth c H locs cells slots Q (F0 mid 1320 ls []) := by
  obtain ⟨hx, hb, hr, hml, hown, hts, -⟩ := id C.1
  have hown : s.vm.findClass RL = some mid.cls := hown
  refine l_a1 C dW_1320 hls ?_
  refine l_arg C (k := 1) dW_1321 dW_1322 dW_1324 dW_1325 dW_1326 (by decide) (by omega) hL hls hst ?_
  refine l_arg C (k := 2) dW_1327 dW_1328 dW_1330 dW_1331 dW_1332 (by decide) (by omega) hL hls hst ?_
  refine l_arg C (k := 3) dW_1333 dW_1334 dW_1336 dW_1337 dW_1338 (by decide) (by omega) hL hls hst ?_
  refine l_arg C (k := 4) dW_1339 dW_1340 dW_1342 dW_1343 dW_1344 (by decide) (by omega) hL hls hst ?_
  refine l_arg C (k := 5) dW_1345 dW_1346 dW_1348 dW_1349 dW_1350 (by decide) (by omega) hL hls hst ?_
  refine l_cp C (a := 0) (idx := 164) (w := 1131) (n := 5) (vs := [.int (xs (i + 1)), .int (xs (i + 2)), .int (xs (i + 3)), .int (xs (i + 4)), .int (xs (i + 5))]) q265 (by decide) dW_1351 dW_1354 (by decide +kernel) rfl (by decide +kernel) (by decide +kernel) (fun z => trivial) ⟨aI_any _, aI_any _, aI_any _, aI_any _, aI_any _, trivial⟩ hv hls hst hcs (fun x1 H1 locs1 hv1 hst1 => ?_)
  refine l_a2 C dW_1355 hls ?_
  refine l_arg C (k := 1) dW_1356 dW_1357 dW_1359 dW_1360 dW_1361 (by decide) (by omega) hL hls hst1 ?_
  refine l_arg C (k := 2) dW_1362 dW_1363 dW_1365 dW_1366 dW_1367 (by decide) (by omega) hL hls hst1 ?_
  refine l_arg C (k := 3) dW_1368 dW_1369 dW_1371 dW_1372 dW_1373 (by decide) (by omega) hL hls hst1 ?_
  refine l_arg C (k := 4) dW_1374 dW_1375 dW_1377 dW_1378 dW_1379 (by decide) (by omega) hL hls hst1 ?_
  refine l_arg C (k := 5) dW_1380 dW_1381 dW_1383 dW_1384 dW_1385 (by decide) (by omega) hL hls hst1 ?_
  refine l_cp C (a := 314) (idx := 167) (w := 1886) (n := 5) (vs := [.int (xs (i + 1)), .int (xs (i + 2)), .int (xs (i + 3)), .int (xs (i + 4)), .int (xs (i + 5))]) r180 (by decide) dW_1386 dW_1389 (by decide +kernel) rfl (by decide +kernel) (by decide +kernel) (fun z => z.2.1) ⟨aI_any _, aI_any _, aI_any _, aI_any _, aI_any _, trivial⟩ hv1 hls hst1 hcs (fun x2 H2 locs2 hv2 hst2 => ?_)
  refine l_go C dW_1390 (by decide) ?_
  exact kk x2 H2 locs2 hv2 hst2
set_option maxHeartbeats 2000000 in
theorem lk_34 (C : lCx p l s mid meth c b L xs dC dI cA q sv qo) (hL : L ≤ 3072) (hi : i + 6 ≤ L) (hls : lv_has ls 7 (lvL b q qo i)) (hst : lSt s dC dI cA q qo x H locs) (hv : Inv x) (hcs : cells ≤ 601024 ∧ slots ≤ 7293033) (kk : ∀ (x' : xM) (H1 : Heap) (locs1 : List Loc), Inv x' → lSt s dC dI cA q qo x' H1 locs1 → W p l e room_1 s mid #[Value.ref b] below meth c H1 locs1 cells slots Q (F0 mid 1629 ls [])) : W p l e room_1 s mid #[Value.ref b] below meth c H locs cells slots Q (F0 mid 1393 ls []) := by
  obtain ⟨hx, hb, hr, hml, hown, hts, -⟩ := id C.1
  have hown : s.vm.findClass RL = some mid.cls := hown
  refine l_a1 C dW_1393 hls ?_
  refine l_arg C (k := 1) dW_1394 dW_1395 dW_1397 dW_1398 dW_1399 (by decide) (by omega) hL hls hst ?_
  refine l_arg C (k := 2) dW_1400 dW_1401 dW_1403 dW_1404 dW_1405 (by decide) (by omega) hL hls hst ?_
  refine l_arg C (k := 3) dW_1406 dW_1407 dW_1409 dW_1410 dW_1411 (by decide) (by omega) hL hls hst ?_
  refine l_cp C (a := 0) (idx := 168) (w := 1143) (n := 3) (vs := [.int (xs (i + 1)), .int (xs (i + 2)), .int (xs (i + 3))]) q267 (by decide) dW_1412 dW_1415 (by decide +kernel) rfl (by decide +kernel) (by decide +kernel) (fun z => trivial) ⟨aI_any _, aI_any _, aI_any _, trivial⟩ hv hls hst hcs (fun x1 H1 locs1 hv1 hst1 => ?_)
  refine l_a2 C dW_1416 hls ?_
  refine l_arg C (k := 1) dW_1417 dW_1418 dW_1420 dW_1421 dW_1422 (by decide) (by omega) hL hls hst1 ?_
  refine l_arg C (k := 2) dW_1423 dW_1424 dW_1426 dW_1427 dW_1428 (by decide) (by omega) hL hls hst1 ?_
  refine l_arg C (k := 3) dW_1429 dW_1430 dW_1432 dW_1433 dW_1434 (by decide) (by omega) hL hls hst1 ?_
  refine l_cp C (a := 314) (idx := 172) (w := 1899) (n := 3) (vs := [.int (xs (i + 1)), .int (xs (i + 2)), .int (xs (i + 3))]) r181 (by decide) dW_1435 dW_1438 (by decide +kernel) rfl (by decide +kernel) (by decide +kernel) (fun z => z.2.1) ⟨aI_any _, aI_any _, aI_any _, trivial⟩ hv1 hls hst1 hcs (fun x2 H2 locs2 hv2 hst2 => ?_)
  refine l_go C dW_1439 (by decide) ?_
  exact kk x2 H2 locs2 hv2 hst2
set_option maxHeartbeats 2000000 in
theorem lk_35 (C : lCx p l s mid meth c b L xs dC dI cA q sv qo) (hL : L ≤ 3072) (hi : i + 6 ≤ L) (hls : lv_has ls 7 (lvL b q qo i)) (hst : lSt s dC dI cA q qo x H locs) (hv : Inv x) (hcs : cells ≤ 601024 ∧ slots ≤ 7293033) (kk : ∀ (x' : xM) (H1 : Heap) (locs1 : List Loc), Inv x' → lSt s dC dI cA q qo x' H1 locs1 → W p l e room_1 s mid #[Value.ref b] below meth c H1 locs1 cells slots Q (F0 mid 1629 ls [])) : W p l e room_1 s mid #[Value.ref b] below meth c H locs cells slots Q (F0 mid 1442 ls []) := by
  obtain ⟨hx, hb, hr, hml, hown, hts, -⟩ := id C.1
  have hown : s.vm.findClass RL = some mid.cls := hown
  refine l_a1 C dW_1442 hls ?_
  refine l_arg C (k := 1) dW_1443 dW_1444 dW_1446 dW_1447 dW_1448 (by decide) (by omega) hL hls hst ?_
  refine l_arg C (k := 2) dW_1449 dW_1450 dW_1452 dW_1453 dW_1454 (by decide) (by omega) hL hls hst ?_
  refine l_cp C (a := 0) (idx := 173) (w := 1152) (n := 2) (vs := [.int (xs (i + 1)), .int (xs (i + 2))]) q268 (by decide) dW_1455 dW_1458 (by decide +kernel) rfl (by decide +kernel) (by decide +kernel) (fun z => trivial) ⟨aI_any _, aI_any _, trivial⟩ hv hls hst hcs (fun x1 H1 locs1 hv1 hst1 => ?_)
  refine l_a2 C dW_1459 hls ?_
  refine l_arg C (k := 1) dW_1460 dW_1461 dW_1463 dW_1464 dW_1465 (by decide) (by omega) hL hls hst1 ?_
  refine l_arg C (k := 2) dW_1466 dW_1467 dW_1469 dW_1470 dW_1471 (by decide) (by omega) hL hls hst1 ?_
  refine l_cp C (a := 314) (idx := 176) (w := 1903) (n := 2) (vs := [.int (xs (i + 1)), .int (xs (i + 2))]) r183 (by decide) dW_1472 dW_1475 (by decide +kernel) rfl (by decide +kernel) (by decide +kernel) (fun z => z.2.1) ⟨aI_any _, aI_any _, trivial⟩ hv1 hls hst1 hcs (fun x2 H2 locs2 hv2 hst2 => ?_)
  refine l_go C dW_1476 (by decide) ?_
  exact kk x2 H2 locs2 hv2 hst2
set_option maxHeartbeats 2000000 in
theorem lk_36 (C : lCx p l s mid meth c b L xs dC dI cA q sv qo) (hL : L ≤ 3072) (hi : i + 6 ≤ L) (hls : lv_has ls 7 (lvL b q qo i)) (hst : lSt s dC dI cA q qo x H locs) (hv : Inv x) (hcs : cells ≤ 601024 ∧ slots ≤ 7293033) (kk : ∀ (x' : xM) (H1 : Heap) (locs1 : List Loc), Inv x' → lSt s dC dI cA q qo x' H1 locs1 → W p l e room_1 s mid #[Value.ref b] below meth c H1 locs1 cells slots Q (F0 mid 1629 ls [])) : W p l e room_1 s mid #[Value.ref b] below meth c H locs cells slots Q (F0 mid 1479 ls []) := by
  obtain ⟨hx, hb, hr, hml, hown, hts, -⟩ := id C.1
  have hown : s.vm.findClass RL = some mid.cls := hown
  refine l_a1 C dW_1479 hls ?_
  refine l_arg C (k := 1) dW_1480 dW_1481 dW_1483 dW_1484 dW_1485 (by decide) (by omega) hL hls hst ?_
  refine l_arg C (k := 2) dW_1486 dW_1487 dW_1489 dW_1490 dW_1491 (by decide) (by omega) hL hls hst ?_
  refine l_cp C (a := 0) (idx := 177) (w := 1159) (n := 2) (vs := [.int (xs (i + 1)), .int (xs (i + 2))]) q269 (by decide) dW_1492 dW_1495 (by decide +kernel) rfl (by decide +kernel) (by decide +kernel) (fun z => trivial) ⟨aI_any _, aI_any _, trivial⟩ hv hls hst hcs (fun x1 H1 locs1 hv1 hst1 => ?_)
  refine l_a2 C dW_1496 hls ?_
  refine l_arg C (k := 1) dW_1497 dW_1498 dW_1500 dW_1501 dW_1502 (by decide) (by omega) hL hls hst1 ?_
  refine l_arg C (k := 2) dW_1503 dW_1504 dW_1506 dW_1507 dW_1508 (by decide) (by omega) hL hls hst1 ?_
  refine l_cp C (a := 314) (idx := 180) (w := 1909) (n := 2) (vs := [.int (xs (i + 1)), .int (xs (i + 2))]) r185 (by decide) dW_1509 dW_1512 (by decide +kernel) rfl (by decide +kernel) (by decide +kernel) (fun z => z.2.1) ⟨aI_any _, aI_any _, trivial⟩ hv1 hls hst1 hcs (fun x2 H2 locs2 hv2 hst2 => ?_)
  refine l_go C dW_1513 (by decide) ?_
  exact kk x2 H2 locs2 hv2 hst2
set_option maxHeartbeats 2000000 in
theorem lk_37 (C : lCx p l s mid meth c b L xs dC dI cA q sv qo) (hL : L ≤ 3072) (hi : i + 6 ≤ L) (hls : lv_has ls 7 (lvL b q qo i)) (hst : lSt s dC dI cA q qo x H locs) (hv : Inv x) (hcs : cells ≤ 601024 ∧ slots ≤ 7293033) (kk : ∀ (x' : xM) (H1 : Heap) (locs1 : List Loc), Inv x' → lSt s dC dI cA q qo x' H1 locs1 → W p l e room_1 s mid #[Value.ref b] below meth c H1 locs1 cells slots Q (F0 mid 1629 ls [])) : W p l e room_1 s mid #[Value.ref b] below meth c H locs cells slots Q (F0 mid 1516 ls []) := by
  obtain ⟨hx, hb, hr, hml, hown, hts, -⟩ := id C.1
  have hown : s.vm.findClass RL = some mid.cls := hown
  refine l_a1 C dW_1516 hls ?_
  refine l_arg C (k := 1) dW_1517 dW_1518 dW_1520 dW_1521 dW_1522 (by decide) (by omega) hL hls hst ?_
  refine l_cp C (a := 0) (idx := 181) (w := 1163) (n := 1) (vs := [.int (xs (i + 1))]) q282 (by decide) dW_1523 dW_1526 (by decide +kernel) rfl (by decide +kernel) (by decide +kernel) (fun z => trivial) ⟨aI_any _, trivial⟩ hv hls hst hcs (fun x1 H1 locs1 hv1 hst1 => ?_)
  refine l_a2 C dW_1527 hls ?_
  refine l_arg C (k := 1) dW_1528 dW_1529 dW_1531 dW_1532 dW_1533 (by decide) (by omega) hL hls hst1 ?_
  refine l_cp C (a := 314) (idx := 184) (w := 1913) (n := 1) (vs := [.int (xs (i + 1))]) r220 (by decide) dW_1534 dW_1537 (by decide +kernel) rfl (by decide +kernel) (by decide +kernel) (fun z => z.2.1) ⟨aI_any _, trivial⟩ hv1 hls hst1 hcs (fun x2 H2 locs2 hv2 hst2 => ?_)
  refine l_go C dW_1538 (by decide) ?_
  exact kk x2 H2 locs2 hv2 hst2
set_option maxHeartbeats 2000000 in
theorem lk_38 (C : lCx p l s mid meth c b L xs dC dI cA q sv qo) (hL : L ≤ 3072) (hi : i + 6 ≤ L) (hls : lv_has ls 7 (lvL b q qo i)) (hst : lSt s dC dI cA q qo x H locs) (hv : Inv x) (hcs : cells ≤ 601024 ∧ slots ≤ 7293033) (kk : ∀ (x' : xM) (H1 : Heap) (locs1 : List Loc), Inv x' → lSt s dC dI cA q qo x' H1 locs1 → W p l e room_1 s mid #[Value.ref b] below meth c H1 locs1 cells slots Q (F0 mid 1629 ls [])) : W p l e room_1 s mid #[Value.ref b] below meth c H locs cells slots Q (F0 mid 1541 ls []) := by
  obtain ⟨hx, hb, hr, hml, hown, hts, -⟩ := id C.1
  have hown : s.vm.findClass RL = some mid.cls := hown
  refine l_a1 C dW_1541 hls ?_
  refine l_arg C (k := 1) dW_1542 dW_1543 dW_1545 dW_1546 dW_1547 (by decide) (by omega) hL hls hst ?_
  refine l_arg C (k := 2) dW_1548 dW_1549 dW_1551 dW_1552 dW_1553 (by decide) (by omega) hL hls hst ?_
  refine l_cp C (a := 0) (idx := 185) (w := 1063) (n := 2) (vs := [.int (xs (i + 1)), .int (xs (i + 2))]) q241 (by decide) dW_1554 dW_1557 (by decide +kernel) rfl (by decide +kernel) (by decide +kernel) (fun z => trivial) ⟨aI_any _, aI_any _, trivial⟩ hv hls hst hcs (fun x1 H1 locs1 hv1 hst1 => ?_)
  refine l_a2 C dW_1558 hls ?_
  refine l_arg C (k := 1) dW_1559 dW_1560 dW_1562 dW_1563 dW_1564 (by decide) (by omega) hL hls hst1 ?_
  refine l_arg C (k := 2) dW_1565 dW_1566 dW_1568 dW_1569 dW_1570 (by decide) (by omega) hL hls hst1 ?_
  refine l_cp C (a := 314) (idx := 188) (w := 1949) (n := 2) (vs := [.int (xs (i + 1)), .int (xs (i + 2))]) r222 (by decide) dW_1571 dW_1574 (by decide +kernel) rfl (by decide +kernel) (by decide +kernel) (fun z => z.2.1) ⟨aI_any _, aI_any _, trivial⟩ hv1 hls hst1 hcs (fun x2 H2 locs2 hv2 hst2 => ?_)
  refine l_go C dW_1575 (by decide) ?_
  exact kk x2 H2 locs2 hv2 hst2
set_option maxHeartbeats 2000000 in
theorem lk_39 (C : lCx p l s mid meth c b L xs dC dI cA q sv qo) (hL : L ≤ 3072) (hi : i + 6 ≤ L) (hls : lv_has ls 7 (lvL b q qo i)) (hst : lSt s dC dI cA q qo x H locs) (hv : Inv x) (hcs : cells ≤ 601024 ∧ slots ≤ 7293033) (kk : ∀ (x' : xM) (H1 : Heap) (locs1 : List Loc), Inv x' → lSt s dC dI cA q qo x' H1 locs1 → W p l e room_1 s mid #[Value.ref b] below meth c H1 locs1 cells slots Q (F0 mid 1629 ls [])) : W p l e room_1 s mid #[Value.ref b] below meth c H locs cells slots Q (F0 mid 1578 ls []) := by
  obtain ⟨hx, hb, hr, hml, hown, hts, -⟩ := id C.1
  have hown : s.vm.findClass RL = some mid.cls := hown
  refine l_a1 C dW_1578 hls ?_
  obtain ⟨XF, hx1, hm1⟩ := p_image  x hv
  refine l_call1 C (a := 0) (j := 126) (w := 982) (n := 0) (as := []) (rest := []) (d := 1200) dW_1579 (by decide +kernel) rfl (by decide) (Nat.le_refl _) hx1 hls hst hcs (fun rv x1 H1 locs1 hp1 hst1 => ?_)
  obtain ⟨⟨z, rfl⟩, hp1⟩ := hp1
  refine lv_pop hx hb dW_1582 rfl ?_
  refine l_a2 C dW_1583 hls ?_
  refine l_call1 C (a := 314) (j := 261) (w := 1954) (n := 0) (as := []) (rest := []) (d := 1200) dW_1584 (by decide +kernel) rfl (by decide) (Nat.le_refl _) (hm1 _ _ hp1) hls hst1 hcs (fun rv x2 H2 locs2 hp2 hst2 => ?_)
  obtain ⟨rfl, hv2⟩ := hp2
  refine lv_pop hx hb dW_1587 rfl ?_
  refine l_go C dW_1588 (by decide) ?_
  exact kk x2 H2 locs2 hv2 hst2
set_option maxHeartbeats 2000000 in
theorem lk_40 (C : lCx p l s mid meth c b L xs dC dI cA q sv qo) (hL : L ≤ 3072) (hi : i + 6 ≤ L) (hls : lv_has ls 7 (lvL b q qo i)) (hst : lSt s dC dI cA q qo x H locs) (hv : Inv x) (hcs : cells ≤ 601024 ∧ slots ≤ 7293033) (kk : ∀ (x' : xM) (H1 : Heap) (locs1 : List Loc), Inv x' → lSt s dC dI cA q qo x' H1 locs1 → W p l e room_1 s mid #[Value.ref b] below meth c H1 locs1 cells slots Q (F0 mid 1629 ls [])) : W p l e room_1 s mid #[Value.ref b] below meth c H locs cells slots Q (F0 mid 1591 ls []) := by
  obtain ⟨hx, hb, hr, hml, hown, hts, -⟩ := id C.1
  have hown : s.vm.findClass RL = some mid.cls := hown
  refine l_a1 C dW_1591 hls ?_
  obtain ⟨XF, hx1, hm1⟩ := p_back  x hv
  refine l_call1 C (a := 0) (j := 127) (w := 992) (n := 0) (as := []) (rest := []) (d := 1200) dW_1592 (by decide +kernel) rfl (by decide) (Nat.le_refl _) hx1 hls hst hcs (fun rv x1 H1 locs1 hp1 hst1 => ?_)
  obtain ⟨⟨z, rfl⟩, hp1⟩ := hp1
  refine lv_pop hx hb dW_1595 rfl ?_
  refine l_a2 C dW_1596 hls ?_
  refine l_call1 C (a := 314) (j := 262) (w := 1958) (n := 0) (as := []) (rest := []) (d := 1200) dW_1597 (by decide +kernel) rfl (by decide) (Nat.le_refl _) (hm1 _ _ hp1) hls hst1 hcs (fun rv x2 H2 locs2 hp2 hst2 => ?_)
  obtain ⟨rfl, hv2⟩ := hp2
  refine lv_pop hx hb dW_1600 rfl ?_
  refine l_go C dW_1601 (by decide) ?_
  exact kk x2 H2 locs2 hv2 hst2
set_option maxHeartbeats 2000000 in
theorem lk_41 (C : lCx p l s mid meth c b L xs dC dI cA q sv qo) (hL : L ≤ 3072) (hi : i + 6 ≤ L) (hls : lv_has ls 7 (lvL b q qo i)) (hst : lSt s dC dI cA q qo x H locs) (hv : Inv x) (hcs : cells ≤ 601024 ∧ slots ≤ 7293033) (kk : ∀ (x' : xM) (H1 : Heap) (locs1 : List Loc), Inv x' → lSt s dC dI cA q qo x' H1 locs1 → W p l e room_1 s mid #[Value.ref b] below meth c H1 locs1 cells slots Q (F0 mid 1629 ls [])) : W p l e room_1 s mid #[Value.ref b] below meth c H locs cells slots Q (F0 mid 1604 ls []) := by
  obtain ⟨hx, hb, hr, hml, hown, hts, -⟩ := id C.1
  have hown : s.vm.findClass RL = some mid.cls := hown
  refine l_a1 C dW_1604 hls ?_
  refine l_arg C (k := 1) dW_1605 dW_1606 dW_1608 dW_1609 dW_1610 (by decide) (by omega) hL hls hst ?_
  refine l_cp C (a := 0) (idx := 197) (w := 805) (n := 1) (vs := [.int (xs (i + 1))]) q123 (by decide) dW_1611 dW_1614 (by decide +kernel) rfl (by decide +kernel) (by decide +kernel) (fun z => trivial) ⟨aI_any _, trivial⟩ hv hls hst hcs (fun x1 H1 locs1 hv1 hst1 => ?_)
  refine l_a2 C dW_1615 hls ?_
  refine l_arg C (k := 1) dW_1616 dW_1617 dW_1619 dW_1620 dW_1621 (by decide) (by omega) hL hls hst1 ?_
  refine l_cp C (a := 314) (idx := 200) (w := 1962) (n := 1) (vs := [.int (xs (i + 1))]) r225 (by decide) dW_1622 dW_1625 (by decide +kernel) rfl (by decide +kernel) (by decide +kernel) (fun z => z.2.1) ⟨aI_any _, trivial⟩ hv1 hls hst1 hcs (fun x2 H2 locs2 hv2 hst2 => ?_)
  refine l_go C dW_1626 (by decide) ?_
  exact kk x2 H2 locs2 hv2 hst2
end CASES
