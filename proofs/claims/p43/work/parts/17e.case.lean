/-! L3: the cases of the law -/
def lwq (e : Nat × Instr × Nat) : Bool := decide (decode cL_law e.1 = .ok (e.2.1, e.2.2))
theorem lwq_ok {e : Nat × Instr} (h : (xdec cL_law e && xtg e) = true) (hs : xsw e.2 = false) : decode cL_law e.1 = .ok (e.2, xlen e.2) := by
  rw [Bool.and_eq_true] at h
  have h := h.1
  unfold xdec at h
  split at h
  · rename_i i n hd
    simp only [Bool.and_eq_true, Bool.or_eq_true, decide_eq_true_eq, beq_iff_eq] at h
    obtain ⟨h1, h2⟩ := h
    subst h1
    rcases h2 with h2 | h2
    · rw [hs] at h2
      cases h2
    · rw [hd, h2]
  · cases h
def lwL_0 : List (Nat × Instr) := [(224, .aload_n 1), (225, .aload_n 0), (226, .iload 4), (228, .iconst 1), (229, .iadd), (230, .iaload), (231, .aload_n 0), (232, .iload 4), (234, .iconst 2), (235, .iadd), (236, .iaload), (237, .aload_n 0), (238, .iload 4), (240, .iconst 3), (241, .iadd), (242, .iaload), (243, .aload_n 0), (244, .iload 4), (246, .iconst 4), (247, .iadd), (248, .iaload), (249, .aload_n 0), (250, .iload 4), (252, .iconst 5), (253, .iadd), (254, .iaload), (255, .invokevirtual 19), (258, .pop), (259, .aload_n 2), (260, .aload_n 0), (261, .iload 4), (263, .iconst 1), (264, .iadd), (265, .iaload), (266, .aload_n 0), (267, .iload 4), (269, .iconst 2), (270, .iadd), (271, .iaload), (272, .aload_n 0)]
set_option maxRecDepth 100000 in
theorem lwA_0 : lwL_0.all (fun e => xdec cL_law e && xtg e) = true := dW_top (by decide +kernel)
theorem dW_224 : decode cL_law 224 = .ok (.aload_n 1, 1) := lwq_ok (e := (224, .aload_n 1)) (List.all_eq_true.mp lwA_0 _ (List.mem_of_getElem? (i := 0) rfl)) rfl
theorem dW_225 : decode cL_law 225 = .ok (.aload_n 0, 1) := lwq_ok (e := (225, .aload_n 0)) (List.all_eq_true.mp lwA_0 _ (List.mem_of_getElem? (i := 1) rfl)) rfl
theorem dW_226 : decode cL_law 226 = .ok (.iload 4, 2) := lwq_ok (e := (226, .iload 4)) (List.all_eq_true.mp lwA_0 _ (List.mem_of_getElem? (i := 2) rfl)) rfl
theorem dW_228 : decode cL_law 228 = .ok (.iconst 1, 1) := lwq_ok (e := (228, .iconst 1)) (List.all_eq_true.mp lwA_0 _ (List.mem_of_getElem? (i := 3) rfl)) rfl
theorem dW_229 : decode cL_law 229 = .ok (.iadd, 1) := lwq_ok (e := (229, .iadd)) (List.all_eq_true.mp lwA_0 _ (List.mem_of_getElem? (i := 4) rfl)) rfl
theorem dW_230 : decode cL_law 230 = .ok (.iaload, 1) := lwq_ok (e := (230, .iaload)) (List.all_eq_true.mp lwA_0 _ (List.mem_of_getElem? (i := 5) rfl)) rfl
theorem dW_231 : decode cL_law 231 = .ok (.aload_n 0, 1) := lwq_ok (e := (231, .aload_n 0)) (List.all_eq_true.mp lwA_0 _ (List.mem_of_getElem? (i := 6) rfl)) rfl
theorem dW_232 : decode cL_law 232 = .ok (.iload 4, 2) := lwq_ok (e := (232, .iload 4)) (List.all_eq_true.mp lwA_0 _ (List.mem_of_getElem? (i := 7) rfl)) rfl
theorem dW_234 : decode cL_law 234 = .ok (.iconst 2, 1) := lwq_ok (e := (234, .iconst 2)) (List.all_eq_true.mp lwA_0 _ (List.mem_of_getElem? (i := 8) rfl)) rfl
theorem dW_235 : decode cL_law 235 = .ok (.iadd, 1) := lwq_ok (e := (235, .iadd)) (List.all_eq_true.mp lwA_0 _ (List.mem_of_getElem? (i := 9) rfl)) rfl
theorem dW_236 : decode cL_law 236 = .ok (.iaload, 1) := lwq_ok (e := (236, .iaload)) (List.all_eq_true.mp lwA_0 _ (List.mem_of_getElem? (i := 10) rfl)) rfl
theorem dW_237 : decode cL_law 237 = .ok (.aload_n 0, 1) := lwq_ok (e := (237, .aload_n 0)) (List.all_eq_true.mp lwA_0 _ (List.mem_of_getElem? (i := 11) rfl)) rfl
theorem dW_238 : decode cL_law 238 = .ok (.iload 4, 2) := lwq_ok (e := (238, .iload 4)) (List.all_eq_true.mp lwA_0 _ (List.mem_of_getElem? (i := 12) rfl)) rfl
theorem dW_240 : decode cL_law 240 = .ok (.iconst 3, 1) := lwq_ok (e := (240, .iconst 3)) (List.all_eq_true.mp lwA_0 _ (List.mem_of_getElem? (i := 13) rfl)) rfl
theorem dW_241 : decode cL_law 241 = .ok (.iadd, 1) := lwq_ok (e := (241, .iadd)) (List.all_eq_true.mp lwA_0 _ (List.mem_of_getElem? (i := 14) rfl)) rfl
theorem dW_242 : decode cL_law 242 = .ok (.iaload, 1) := lwq_ok (e := (242, .iaload)) (List.all_eq_true.mp lwA_0 _ (List.mem_of_getElem? (i := 15) rfl)) rfl
theorem dW_243 : decode cL_law 243 = .ok (.aload_n 0, 1) := lwq_ok (e := (243, .aload_n 0)) (List.all_eq_true.mp lwA_0 _ (List.mem_of_getElem? (i := 16) rfl)) rfl
theorem dW_244 : decode cL_law 244 = .ok (.iload 4, 2) := lwq_ok (e := (244, .iload 4)) (List.all_eq_true.mp lwA_0 _ (List.mem_of_getElem? (i := 17) rfl)) rfl
theorem dW_246 : decode cL_law 246 = .ok (.iconst 4, 1) := lwq_ok (e := (246, .iconst 4)) (List.all_eq_true.mp lwA_0 _ (List.mem_of_getElem? (i := 18) rfl)) rfl
theorem dW_247 : decode cL_law 247 = .ok (.iadd, 1) := lwq_ok (e := (247, .iadd)) (List.all_eq_true.mp lwA_0 _ (List.mem_of_getElem? (i := 19) rfl)) rfl
theorem dW_248 : decode cL_law 248 = .ok (.iaload, 1) := lwq_ok (e := (248, .iaload)) (List.all_eq_true.mp lwA_0 _ (List.mem_of_getElem? (i := 20) rfl)) rfl
theorem dW_249 : decode cL_law 249 = .ok (.aload_n 0, 1) := lwq_ok (e := (249, .aload_n 0)) (List.all_eq_true.mp lwA_0 _ (List.mem_of_getElem? (i := 21) rfl)) rfl
theorem dW_250 : decode cL_law 250 = .ok (.iload 4, 2) := lwq_ok (e := (250, .iload 4)) (List.all_eq_true.mp lwA_0 _ (List.mem_of_getElem? (i := 22) rfl)) rfl
theorem dW_252 : decode cL_law 252 = .ok (.iconst 5, 1) := lwq_ok (e := (252, .iconst 5)) (List.all_eq_true.mp lwA_0 _ (List.mem_of_getElem? (i := 23) rfl)) rfl
theorem dW_253 : decode cL_law 253 = .ok (.iadd, 1) := lwq_ok (e := (253, .iadd)) (List.all_eq_true.mp lwA_0 _ (List.mem_of_getElem? (i := 24) rfl)) rfl
theorem dW_254 : decode cL_law 254 = .ok (.iaload, 1) := lwq_ok (e := (254, .iaload)) (List.all_eq_true.mp lwA_0 _ (List.mem_of_getElem? (i := 25) rfl)) rfl
theorem dW_255 : decode cL_law 255 = .ok (.invokevirtual 19, 3) := lwq_ok (e := (255, .invokevirtual 19)) (List.all_eq_true.mp lwA_0 _ (List.mem_of_getElem? (i := 26) rfl)) rfl
theorem dW_258 : decode cL_law 258 = .ok (.pop, 1) := lwq_ok (e := (258, .pop)) (List.all_eq_true.mp lwA_0 _ (List.mem_of_getElem? (i := 27) rfl)) rfl
theorem dW_259 : decode cL_law 259 = .ok (.aload_n 2, 1) := lwq_ok (e := (259, .aload_n 2)) (List.all_eq_true.mp lwA_0 _ (List.mem_of_getElem? (i := 28) rfl)) rfl
theorem dW_260 : decode cL_law 260 = .ok (.aload_n 0, 1) := lwq_ok (e := (260, .aload_n 0)) (List.all_eq_true.mp lwA_0 _ (List.mem_of_getElem? (i := 29) rfl)) rfl
theorem dW_261 : decode cL_law 261 = .ok (.iload 4, 2) := lwq_ok (e := (261, .iload 4)) (List.all_eq_true.mp lwA_0 _ (List.mem_of_getElem? (i := 30) rfl)) rfl
theorem dW_263 : decode cL_law 263 = .ok (.iconst 1, 1) := lwq_ok (e := (263, .iconst 1)) (List.all_eq_true.mp lwA_0 _ (List.mem_of_getElem? (i := 31) rfl)) rfl
theorem dW_264 : decode cL_law 264 = .ok (.iadd, 1) := lwq_ok (e := (264, .iadd)) (List.all_eq_true.mp lwA_0 _ (List.mem_of_getElem? (i := 32) rfl)) rfl
theorem dW_265 : decode cL_law 265 = .ok (.iaload, 1) := lwq_ok (e := (265, .iaload)) (List.all_eq_true.mp lwA_0 _ (List.mem_of_getElem? (i := 33) rfl)) rfl
theorem dW_266 : decode cL_law 266 = .ok (.aload_n 0, 1) := lwq_ok (e := (266, .aload_n 0)) (List.all_eq_true.mp lwA_0 _ (List.mem_of_getElem? (i := 34) rfl)) rfl
theorem dW_267 : decode cL_law 267 = .ok (.iload 4, 2) := lwq_ok (e := (267, .iload 4)) (List.all_eq_true.mp lwA_0 _ (List.mem_of_getElem? (i := 35) rfl)) rfl
theorem dW_269 : decode cL_law 269 = .ok (.iconst 2, 1) := lwq_ok (e := (269, .iconst 2)) (List.all_eq_true.mp lwA_0 _ (List.mem_of_getElem? (i := 36) rfl)) rfl
theorem dW_270 : decode cL_law 270 = .ok (.iadd, 1) := lwq_ok (e := (270, .iadd)) (List.all_eq_true.mp lwA_0 _ (List.mem_of_getElem? (i := 37) rfl)) rfl
theorem dW_271 : decode cL_law 271 = .ok (.iaload, 1) := lwq_ok (e := (271, .iaload)) (List.all_eq_true.mp lwA_0 _ (List.mem_of_getElem? (i := 38) rfl)) rfl
theorem dW_272 : decode cL_law 272 = .ok (.aload_n 0, 1) := lwq_ok (e := (272, .aload_n 0)) (List.all_eq_true.mp lwA_0 _ (List.mem_of_getElem? (i := 39) rfl)) rfl
def lwL_1 : List (Nat × Instr) := [(273, .iload 4), (275, .iconst 3), (276, .iadd), (277, .iaload), (278, .aload_n 0), (279, .iload 4), (281, .iconst 4), (282, .iadd), (283, .iaload), (284, .aload_n 0), (285, .iload 4), (287, .iconst 5), (288, .iadd), (289, .iaload), (290, .invokevirtual 23), (293, .pop), (294, .goto 1307), (297, .aload_n 1), (298, .aload_n 0), (299, .iload 4), (301, .iconst 1), (302, .iadd), (303, .iaload), (304, .invokevirtual 24), (307, .pop), (308, .aload_n 2), (309, .aload_n 0), (310, .iload 4), (312, .iconst 1), (313, .iadd), (314, .iaload), (315, .invokevirtual 28), (318, .pop), (319, .goto 1282), (322, .aload_n 1), (323, .aload_n 0), (324, .iload 4), (326, .iconst 1), (327, .iadd), (328, .iaload)]
set_option maxRecDepth 100000 in
theorem lwA_1 : lwL_1.all (fun e => xdec cL_law e && xtg e) = true := dW_top (by decide +kernel)
theorem dW_273 : decode cL_law 273 = .ok (.iload 4, 2) := lwq_ok (e := (273, .iload 4)) (List.all_eq_true.mp lwA_1 _ (List.mem_of_getElem? (i := 0) rfl)) rfl
theorem dW_275 : decode cL_law 275 = .ok (.iconst 3, 1) := lwq_ok (e := (275, .iconst 3)) (List.all_eq_true.mp lwA_1 _ (List.mem_of_getElem? (i := 1) rfl)) rfl
theorem dW_276 : decode cL_law 276 = .ok (.iadd, 1) := lwq_ok (e := (276, .iadd)) (List.all_eq_true.mp lwA_1 _ (List.mem_of_getElem? (i := 2) rfl)) rfl
theorem dW_277 : decode cL_law 277 = .ok (.iaload, 1) := lwq_ok (e := (277, .iaload)) (List.all_eq_true.mp lwA_1 _ (List.mem_of_getElem? (i := 3) rfl)) rfl
theorem dW_278 : decode cL_law 278 = .ok (.aload_n 0, 1) := lwq_ok (e := (278, .aload_n 0)) (List.all_eq_true.mp lwA_1 _ (List.mem_of_getElem? (i := 4) rfl)) rfl
theorem dW_279 : decode cL_law 279 = .ok (.iload 4, 2) := lwq_ok (e := (279, .iload 4)) (List.all_eq_true.mp lwA_1 _ (List.mem_of_getElem? (i := 5) rfl)) rfl
theorem dW_281 : decode cL_law 281 = .ok (.iconst 4, 1) := lwq_ok (e := (281, .iconst 4)) (List.all_eq_true.mp lwA_1 _ (List.mem_of_getElem? (i := 6) rfl)) rfl
theorem dW_282 : decode cL_law 282 = .ok (.iadd, 1) := lwq_ok (e := (282, .iadd)) (List.all_eq_true.mp lwA_1 _ (List.mem_of_getElem? (i := 7) rfl)) rfl
theorem dW_283 : decode cL_law 283 = .ok (.iaload, 1) := lwq_ok (e := (283, .iaload)) (List.all_eq_true.mp lwA_1 _ (List.mem_of_getElem? (i := 8) rfl)) rfl
theorem dW_284 : decode cL_law 284 = .ok (.aload_n 0, 1) := lwq_ok (e := (284, .aload_n 0)) (List.all_eq_true.mp lwA_1 _ (List.mem_of_getElem? (i := 9) rfl)) rfl
theorem dW_285 : decode cL_law 285 = .ok (.iload 4, 2) := lwq_ok (e := (285, .iload 4)) (List.all_eq_true.mp lwA_1 _ (List.mem_of_getElem? (i := 10) rfl)) rfl
theorem dW_287 : decode cL_law 287 = .ok (.iconst 5, 1) := lwq_ok (e := (287, .iconst 5)) (List.all_eq_true.mp lwA_1 _ (List.mem_of_getElem? (i := 11) rfl)) rfl
theorem dW_288 : decode cL_law 288 = .ok (.iadd, 1) := lwq_ok (e := (288, .iadd)) (List.all_eq_true.mp lwA_1 _ (List.mem_of_getElem? (i := 12) rfl)) rfl
theorem dW_289 : decode cL_law 289 = .ok (.iaload, 1) := lwq_ok (e := (289, .iaload)) (List.all_eq_true.mp lwA_1 _ (List.mem_of_getElem? (i := 13) rfl)) rfl
theorem dW_290 : decode cL_law 290 = .ok (.invokevirtual 23, 3) := lwq_ok (e := (290, .invokevirtual 23)) (List.all_eq_true.mp lwA_1 _ (List.mem_of_getElem? (i := 14) rfl)) rfl
theorem dW_293 : decode cL_law 293 = .ok (.pop, 1) := lwq_ok (e := (293, .pop)) (List.all_eq_true.mp lwA_1 _ (List.mem_of_getElem? (i := 15) rfl)) rfl
theorem dW_294 : decode cL_law 294 = .ok (.goto 1307, 3) := lwq_ok (e := (294, .goto 1307)) (List.all_eq_true.mp lwA_1 _ (List.mem_of_getElem? (i := 16) rfl)) rfl
theorem dW_297 : decode cL_law 297 = .ok (.aload_n 1, 1) := lwq_ok (e := (297, .aload_n 1)) (List.all_eq_true.mp lwA_1 _ (List.mem_of_getElem? (i := 17) rfl)) rfl
theorem dW_298 : decode cL_law 298 = .ok (.aload_n 0, 1) := lwq_ok (e := (298, .aload_n 0)) (List.all_eq_true.mp lwA_1 _ (List.mem_of_getElem? (i := 18) rfl)) rfl
theorem dW_299 : decode cL_law 299 = .ok (.iload 4, 2) := lwq_ok (e := (299, .iload 4)) (List.all_eq_true.mp lwA_1 _ (List.mem_of_getElem? (i := 19) rfl)) rfl
theorem dW_301 : decode cL_law 301 = .ok (.iconst 1, 1) := lwq_ok (e := (301, .iconst 1)) (List.all_eq_true.mp lwA_1 _ (List.mem_of_getElem? (i := 20) rfl)) rfl
theorem dW_302 : decode cL_law 302 = .ok (.iadd, 1) := lwq_ok (e := (302, .iadd)) (List.all_eq_true.mp lwA_1 _ (List.mem_of_getElem? (i := 21) rfl)) rfl
theorem dW_303 : decode cL_law 303 = .ok (.iaload, 1) := lwq_ok (e := (303, .iaload)) (List.all_eq_true.mp lwA_1 _ (List.mem_of_getElem? (i := 22) rfl)) rfl
theorem dW_304 : decode cL_law 304 = .ok (.invokevirtual 24, 3) := lwq_ok (e := (304, .invokevirtual 24)) (List.all_eq_true.mp lwA_1 _ (List.mem_of_getElem? (i := 23) rfl)) rfl
theorem dW_307 : decode cL_law 307 = .ok (.pop, 1) := lwq_ok (e := (307, .pop)) (List.all_eq_true.mp lwA_1 _ (List.mem_of_getElem? (i := 24) rfl)) rfl
theorem dW_308 : decode cL_law 308 = .ok (.aload_n 2, 1) := lwq_ok (e := (308, .aload_n 2)) (List.all_eq_true.mp lwA_1 _ (List.mem_of_getElem? (i := 25) rfl)) rfl
theorem dW_309 : decode cL_law 309 = .ok (.aload_n 0, 1) := lwq_ok (e := (309, .aload_n 0)) (List.all_eq_true.mp lwA_1 _ (List.mem_of_getElem? (i := 26) rfl)) rfl
theorem dW_310 : decode cL_law 310 = .ok (.iload 4, 2) := lwq_ok (e := (310, .iload 4)) (List.all_eq_true.mp lwA_1 _ (List.mem_of_getElem? (i := 27) rfl)) rfl
theorem dW_312 : decode cL_law 312 = .ok (.iconst 1, 1) := lwq_ok (e := (312, .iconst 1)) (List.all_eq_true.mp lwA_1 _ (List.mem_of_getElem? (i := 28) rfl)) rfl
theorem dW_313 : decode cL_law 313 = .ok (.iadd, 1) := lwq_ok (e := (313, .iadd)) (List.all_eq_true.mp lwA_1 _ (List.mem_of_getElem? (i := 29) rfl)) rfl
theorem dW_314 : decode cL_law 314 = .ok (.iaload, 1) := lwq_ok (e := (314, .iaload)) (List.all_eq_true.mp lwA_1 _ (List.mem_of_getElem? (i := 30) rfl)) rfl
theorem dW_315 : decode cL_law 315 = .ok (.invokevirtual 28, 3) := lwq_ok (e := (315, .invokevirtual 28)) (List.all_eq_true.mp lwA_1 _ (List.mem_of_getElem? (i := 31) rfl)) rfl
theorem dW_318 : decode cL_law 318 = .ok (.pop, 1) := lwq_ok (e := (318, .pop)) (List.all_eq_true.mp lwA_1 _ (List.mem_of_getElem? (i := 32) rfl)) rfl
theorem dW_319 : decode cL_law 319 = .ok (.goto 1282, 3) := lwq_ok (e := (319, .goto 1282)) (List.all_eq_true.mp lwA_1 _ (List.mem_of_getElem? (i := 33) rfl)) rfl
theorem dW_322 : decode cL_law 322 = .ok (.aload_n 1, 1) := lwq_ok (e := (322, .aload_n 1)) (List.all_eq_true.mp lwA_1 _ (List.mem_of_getElem? (i := 34) rfl)) rfl
theorem dW_323 : decode cL_law 323 = .ok (.aload_n 0, 1) := lwq_ok (e := (323, .aload_n 0)) (List.all_eq_true.mp lwA_1 _ (List.mem_of_getElem? (i := 35) rfl)) rfl
theorem dW_324 : decode cL_law 324 = .ok (.iload 4, 2) := lwq_ok (e := (324, .iload 4)) (List.all_eq_true.mp lwA_1 _ (List.mem_of_getElem? (i := 36) rfl)) rfl
theorem dW_326 : decode cL_law 326 = .ok (.iconst 1, 1) := lwq_ok (e := (326, .iconst 1)) (List.all_eq_true.mp lwA_1 _ (List.mem_of_getElem? (i := 37) rfl)) rfl
theorem dW_327 : decode cL_law 327 = .ok (.iadd, 1) := lwq_ok (e := (327, .iadd)) (List.all_eq_true.mp lwA_1 _ (List.mem_of_getElem? (i := 38) rfl)) rfl
theorem dW_328 : decode cL_law 328 = .ok (.iaload, 1) := lwq_ok (e := (328, .iaload)) (List.all_eq_true.mp lwA_1 _ (List.mem_of_getElem? (i := 39) rfl)) rfl
def lwL_2 : List (Nat × Instr) := [(329, .invokevirtual 29), (332, .pop), (333, .aload_n 2), (334, .aload_n 0), (335, .iload 4), (337, .iconst 1), (338, .iadd), (339, .iaload), (340, .invokevirtual 33), (343, .pop), (344, .goto 1257), (347, .aload_n 1), (348, .aload_n 0), (349, .iload 4), (351, .iconst 1), (352, .iadd), (353, .iaload), (354, .invokevirtual 34), (357, .pop), (358, .aload_n 2), (359, .aload_n 0), (360, .iload 4), (362, .iconst 1), (363, .iadd), (364, .iaload), (365, .invokevirtual 37), (368, .pop), (369, .goto 1232), (372, .aload_n 1), (373, .aload_n 0), (374, .iload 4), (376, .iconst 1), (377, .iadd), (378, .iaload), (379, .aload_n 0), (380, .iload 4), (382, .iconst 2), (383, .iadd), (384, .iaload), (385, .invokevirtual 38)]
set_option maxRecDepth 100000 in
theorem lwA_2 : lwL_2.all (fun e => xdec cL_law e && xtg e) = true := dW_top (by decide +kernel)
theorem dW_329 : decode cL_law 329 = .ok (.invokevirtual 29, 3) := lwq_ok (e := (329, .invokevirtual 29)) (List.all_eq_true.mp lwA_2 _ (List.mem_of_getElem? (i := 0) rfl)) rfl
theorem dW_332 : decode cL_law 332 = .ok (.pop, 1) := lwq_ok (e := (332, .pop)) (List.all_eq_true.mp lwA_2 _ (List.mem_of_getElem? (i := 1) rfl)) rfl
theorem dW_333 : decode cL_law 333 = .ok (.aload_n 2, 1) := lwq_ok (e := (333, .aload_n 2)) (List.all_eq_true.mp lwA_2 _ (List.mem_of_getElem? (i := 2) rfl)) rfl
theorem dW_334 : decode cL_law 334 = .ok (.aload_n 0, 1) := lwq_ok (e := (334, .aload_n 0)) (List.all_eq_true.mp lwA_2 _ (List.mem_of_getElem? (i := 3) rfl)) rfl
theorem dW_335 : decode cL_law 335 = .ok (.iload 4, 2) := lwq_ok (e := (335, .iload 4)) (List.all_eq_true.mp lwA_2 _ (List.mem_of_getElem? (i := 4) rfl)) rfl
theorem dW_337 : decode cL_law 337 = .ok (.iconst 1, 1) := lwq_ok (e := (337, .iconst 1)) (List.all_eq_true.mp lwA_2 _ (List.mem_of_getElem? (i := 5) rfl)) rfl
theorem dW_338 : decode cL_law 338 = .ok (.iadd, 1) := lwq_ok (e := (338, .iadd)) (List.all_eq_true.mp lwA_2 _ (List.mem_of_getElem? (i := 6) rfl)) rfl
theorem dW_339 : decode cL_law 339 = .ok (.iaload, 1) := lwq_ok (e := (339, .iaload)) (List.all_eq_true.mp lwA_2 _ (List.mem_of_getElem? (i := 7) rfl)) rfl
theorem dW_340 : decode cL_law 340 = .ok (.invokevirtual 33, 3) := lwq_ok (e := (340, .invokevirtual 33)) (List.all_eq_true.mp lwA_2 _ (List.mem_of_getElem? (i := 8) rfl)) rfl
theorem dW_343 : decode cL_law 343 = .ok (.pop, 1) := lwq_ok (e := (343, .pop)) (List.all_eq_true.mp lwA_2 _ (List.mem_of_getElem? (i := 9) rfl)) rfl
theorem dW_344 : decode cL_law 344 = .ok (.goto 1257, 3) := lwq_ok (e := (344, .goto 1257)) (List.all_eq_true.mp lwA_2 _ (List.mem_of_getElem? (i := 10) rfl)) rfl
theorem dW_347 : decode cL_law 347 = .ok (.aload_n 1, 1) := lwq_ok (e := (347, .aload_n 1)) (List.all_eq_true.mp lwA_2 _ (List.mem_of_getElem? (i := 11) rfl)) rfl
theorem dW_348 : decode cL_law 348 = .ok (.aload_n 0, 1) := lwq_ok (e := (348, .aload_n 0)) (List.all_eq_true.mp lwA_2 _ (List.mem_of_getElem? (i := 12) rfl)) rfl
theorem dW_349 : decode cL_law 349 = .ok (.iload 4, 2) := lwq_ok (e := (349, .iload 4)) (List.all_eq_true.mp lwA_2 _ (List.mem_of_getElem? (i := 13) rfl)) rfl
theorem dW_351 : decode cL_law 351 = .ok (.iconst 1, 1) := lwq_ok (e := (351, .iconst 1)) (List.all_eq_true.mp lwA_2 _ (List.mem_of_getElem? (i := 14) rfl)) rfl
theorem dW_352 : decode cL_law 352 = .ok (.iadd, 1) := lwq_ok (e := (352, .iadd)) (List.all_eq_true.mp lwA_2 _ (List.mem_of_getElem? (i := 15) rfl)) rfl
theorem dW_353 : decode cL_law 353 = .ok (.iaload, 1) := lwq_ok (e := (353, .iaload)) (List.all_eq_true.mp lwA_2 _ (List.mem_of_getElem? (i := 16) rfl)) rfl
theorem dW_354 : decode cL_law 354 = .ok (.invokevirtual 34, 3) := lwq_ok (e := (354, .invokevirtual 34)) (List.all_eq_true.mp lwA_2 _ (List.mem_of_getElem? (i := 17) rfl)) rfl
theorem dW_357 : decode cL_law 357 = .ok (.pop, 1) := lwq_ok (e := (357, .pop)) (List.all_eq_true.mp lwA_2 _ (List.mem_of_getElem? (i := 18) rfl)) rfl
theorem dW_358 : decode cL_law 358 = .ok (.aload_n 2, 1) := lwq_ok (e := (358, .aload_n 2)) (List.all_eq_true.mp lwA_2 _ (List.mem_of_getElem? (i := 19) rfl)) rfl
theorem dW_359 : decode cL_law 359 = .ok (.aload_n 0, 1) := lwq_ok (e := (359, .aload_n 0)) (List.all_eq_true.mp lwA_2 _ (List.mem_of_getElem? (i := 20) rfl)) rfl
theorem dW_360 : decode cL_law 360 = .ok (.iload 4, 2) := lwq_ok (e := (360, .iload 4)) (List.all_eq_true.mp lwA_2 _ (List.mem_of_getElem? (i := 21) rfl)) rfl
theorem dW_362 : decode cL_law 362 = .ok (.iconst 1, 1) := lwq_ok (e := (362, .iconst 1)) (List.all_eq_true.mp lwA_2 _ (List.mem_of_getElem? (i := 22) rfl)) rfl
theorem dW_363 : decode cL_law 363 = .ok (.iadd, 1) := lwq_ok (e := (363, .iadd)) (List.all_eq_true.mp lwA_2 _ (List.mem_of_getElem? (i := 23) rfl)) rfl
theorem dW_364 : decode cL_law 364 = .ok (.iaload, 1) := lwq_ok (e := (364, .iaload)) (List.all_eq_true.mp lwA_2 _ (List.mem_of_getElem? (i := 24) rfl)) rfl
theorem dW_365 : decode cL_law 365 = .ok (.invokevirtual 37, 3) := lwq_ok (e := (365, .invokevirtual 37)) (List.all_eq_true.mp lwA_2 _ (List.mem_of_getElem? (i := 25) rfl)) rfl
theorem dW_368 : decode cL_law 368 = .ok (.pop, 1) := lwq_ok (e := (368, .pop)) (List.all_eq_true.mp lwA_2 _ (List.mem_of_getElem? (i := 26) rfl)) rfl
theorem dW_369 : decode cL_law 369 = .ok (.goto 1232, 3) := lwq_ok (e := (369, .goto 1232)) (List.all_eq_true.mp lwA_2 _ (List.mem_of_getElem? (i := 27) rfl)) rfl
theorem dW_372 : decode cL_law 372 = .ok (.aload_n 1, 1) := lwq_ok (e := (372, .aload_n 1)) (List.all_eq_true.mp lwA_2 _ (List.mem_of_getElem? (i := 28) rfl)) rfl
theorem dW_373 : decode cL_law 373 = .ok (.aload_n 0, 1) := lwq_ok (e := (373, .aload_n 0)) (List.all_eq_true.mp lwA_2 _ (List.mem_of_getElem? (i := 29) rfl)) rfl
theorem dW_374 : decode cL_law 374 = .ok (.iload 4, 2) := lwq_ok (e := (374, .iload 4)) (List.all_eq_true.mp lwA_2 _ (List.mem_of_getElem? (i := 30) rfl)) rfl
theorem dW_376 : decode cL_law 376 = .ok (.iconst 1, 1) := lwq_ok (e := (376, .iconst 1)) (List.all_eq_true.mp lwA_2 _ (List.mem_of_getElem? (i := 31) rfl)) rfl
theorem dW_377 : decode cL_law 377 = .ok (.iadd, 1) := lwq_ok (e := (377, .iadd)) (List.all_eq_true.mp lwA_2 _ (List.mem_of_getElem? (i := 32) rfl)) rfl
theorem dW_378 : decode cL_law 378 = .ok (.iaload, 1) := lwq_ok (e := (378, .iaload)) (List.all_eq_true.mp lwA_2 _ (List.mem_of_getElem? (i := 33) rfl)) rfl
theorem dW_379 : decode cL_law 379 = .ok (.aload_n 0, 1) := lwq_ok (e := (379, .aload_n 0)) (List.all_eq_true.mp lwA_2 _ (List.mem_of_getElem? (i := 34) rfl)) rfl
theorem dW_380 : decode cL_law 380 = .ok (.iload 4, 2) := lwq_ok (e := (380, .iload 4)) (List.all_eq_true.mp lwA_2 _ (List.mem_of_getElem? (i := 35) rfl)) rfl
theorem dW_382 : decode cL_law 382 = .ok (.iconst 2, 1) := lwq_ok (e := (382, .iconst 2)) (List.all_eq_true.mp lwA_2 _ (List.mem_of_getElem? (i := 36) rfl)) rfl
theorem dW_383 : decode cL_law 383 = .ok (.iadd, 1) := lwq_ok (e := (383, .iadd)) (List.all_eq_true.mp lwA_2 _ (List.mem_of_getElem? (i := 37) rfl)) rfl
theorem dW_384 : decode cL_law 384 = .ok (.iaload, 1) := lwq_ok (e := (384, .iaload)) (List.all_eq_true.mp lwA_2 _ (List.mem_of_getElem? (i := 38) rfl)) rfl
theorem dW_385 : decode cL_law 385 = .ok (.invokevirtual 38, 3) := lwq_ok (e := (385, .invokevirtual 38)) (List.all_eq_true.mp lwA_2 _ (List.mem_of_getElem? (i := 39) rfl)) rfl
def lwL_3 : List (Nat × Instr) := [(388, .pop), (389, .aload_n 2), (390, .aload_n 0), (391, .iload 4), (393, .iconst 1), (394, .iadd), (395, .iaload), (396, .aload_n 0), (397, .iload 4), (399, .iconst 2), (400, .iadd), (401, .iaload), (402, .invokevirtual 41), (405, .pop), (406, .goto 1195), (409, .aload_n 1), (410, .aload_n 0), (411, .iload 4), (413, .iconst 1), (414, .iadd), (415, .iaload), (416, .aload_n 0), (417, .iload 4), (419, .iconst 2), (420, .iadd), (421, .iaload), (422, .invokevirtual 42), (425, .pop), (426, .aload_n 2), (427, .aload_n 0), (428, .iload 4), (430, .iconst 1), (431, .iadd), (432, .iaload), (433, .aload_n 0), (434, .iload 4), (436, .iconst 2), (437, .iadd), (438, .iaload), (439, .invokevirtual 45)]
set_option maxRecDepth 100000 in
theorem lwA_3 : lwL_3.all (fun e => xdec cL_law e && xtg e) = true := dW_top (by decide +kernel)
theorem dW_388 : decode cL_law 388 = .ok (.pop, 1) := lwq_ok (e := (388, .pop)) (List.all_eq_true.mp lwA_3 _ (List.mem_of_getElem? (i := 0) rfl)) rfl
theorem dW_389 : decode cL_law 389 = .ok (.aload_n 2, 1) := lwq_ok (e := (389, .aload_n 2)) (List.all_eq_true.mp lwA_3 _ (List.mem_of_getElem? (i := 1) rfl)) rfl
theorem dW_390 : decode cL_law 390 = .ok (.aload_n 0, 1) := lwq_ok (e := (390, .aload_n 0)) (List.all_eq_true.mp lwA_3 _ (List.mem_of_getElem? (i := 2) rfl)) rfl
theorem dW_391 : decode cL_law 391 = .ok (.iload 4, 2) := lwq_ok (e := (391, .iload 4)) (List.all_eq_true.mp lwA_3 _ (List.mem_of_getElem? (i := 3) rfl)) rfl
theorem dW_393 : decode cL_law 393 = .ok (.iconst 1, 1) := lwq_ok (e := (393, .iconst 1)) (List.all_eq_true.mp lwA_3 _ (List.mem_of_getElem? (i := 4) rfl)) rfl
theorem dW_394 : decode cL_law 394 = .ok (.iadd, 1) := lwq_ok (e := (394, .iadd)) (List.all_eq_true.mp lwA_3 _ (List.mem_of_getElem? (i := 5) rfl)) rfl
theorem dW_395 : decode cL_law 395 = .ok (.iaload, 1) := lwq_ok (e := (395, .iaload)) (List.all_eq_true.mp lwA_3 _ (List.mem_of_getElem? (i := 6) rfl)) rfl
theorem dW_396 : decode cL_law 396 = .ok (.aload_n 0, 1) := lwq_ok (e := (396, .aload_n 0)) (List.all_eq_true.mp lwA_3 _ (List.mem_of_getElem? (i := 7) rfl)) rfl
theorem dW_397 : decode cL_law 397 = .ok (.iload 4, 2) := lwq_ok (e := (397, .iload 4)) (List.all_eq_true.mp lwA_3 _ (List.mem_of_getElem? (i := 8) rfl)) rfl
theorem dW_399 : decode cL_law 399 = .ok (.iconst 2, 1) := lwq_ok (e := (399, .iconst 2)) (List.all_eq_true.mp lwA_3 _ (List.mem_of_getElem? (i := 9) rfl)) rfl
theorem dW_400 : decode cL_law 400 = .ok (.iadd, 1) := lwq_ok (e := (400, .iadd)) (List.all_eq_true.mp lwA_3 _ (List.mem_of_getElem? (i := 10) rfl)) rfl
theorem dW_401 : decode cL_law 401 = .ok (.iaload, 1) := lwq_ok (e := (401, .iaload)) (List.all_eq_true.mp lwA_3 _ (List.mem_of_getElem? (i := 11) rfl)) rfl
theorem dW_402 : decode cL_law 402 = .ok (.invokevirtual 41, 3) := lwq_ok (e := (402, .invokevirtual 41)) (List.all_eq_true.mp lwA_3 _ (List.mem_of_getElem? (i := 12) rfl)) rfl
theorem dW_405 : decode cL_law 405 = .ok (.pop, 1) := lwq_ok (e := (405, .pop)) (List.all_eq_true.mp lwA_3 _ (List.mem_of_getElem? (i := 13) rfl)) rfl
theorem dW_406 : decode cL_law 406 = .ok (.goto 1195, 3) := lwq_ok (e := (406, .goto 1195)) (List.all_eq_true.mp lwA_3 _ (List.mem_of_getElem? (i := 14) rfl)) rfl
theorem dW_409 : decode cL_law 409 = .ok (.aload_n 1, 1) := lwq_ok (e := (409, .aload_n 1)) (List.all_eq_true.mp lwA_3 _ (List.mem_of_getElem? (i := 15) rfl)) rfl
theorem dW_410 : decode cL_law 410 = .ok (.aload_n 0, 1) := lwq_ok (e := (410, .aload_n 0)) (List.all_eq_true.mp lwA_3 _ (List.mem_of_getElem? (i := 16) rfl)) rfl
theorem dW_411 : decode cL_law 411 = .ok (.iload 4, 2) := lwq_ok (e := (411, .iload 4)) (List.all_eq_true.mp lwA_3 _ (List.mem_of_getElem? (i := 17) rfl)) rfl
theorem dW_413 : decode cL_law 413 = .ok (.iconst 1, 1) := lwq_ok (e := (413, .iconst 1)) (List.all_eq_true.mp lwA_3 _ (List.mem_of_getElem? (i := 18) rfl)) rfl
theorem dW_414 : decode cL_law 414 = .ok (.iadd, 1) := lwq_ok (e := (414, .iadd)) (List.all_eq_true.mp lwA_3 _ (List.mem_of_getElem? (i := 19) rfl)) rfl
theorem dW_415 : decode cL_law 415 = .ok (.iaload, 1) := lwq_ok (e := (415, .iaload)) (List.all_eq_true.mp lwA_3 _ (List.mem_of_getElem? (i := 20) rfl)) rfl
theorem dW_416 : decode cL_law 416 = .ok (.aload_n 0, 1) := lwq_ok (e := (416, .aload_n 0)) (List.all_eq_true.mp lwA_3 _ (List.mem_of_getElem? (i := 21) rfl)) rfl
theorem dW_417 : decode cL_law 417 = .ok (.iload 4, 2) := lwq_ok (e := (417, .iload 4)) (List.all_eq_true.mp lwA_3 _ (List.mem_of_getElem? (i := 22) rfl)) rfl
theorem dW_419 : decode cL_law 419 = .ok (.iconst 2, 1) := lwq_ok (e := (419, .iconst 2)) (List.all_eq_true.mp lwA_3 _ (List.mem_of_getElem? (i := 23) rfl)) rfl
theorem dW_420 : decode cL_law 420 = .ok (.iadd, 1) := lwq_ok (e := (420, .iadd)) (List.all_eq_true.mp lwA_3 _ (List.mem_of_getElem? (i := 24) rfl)) rfl
theorem dW_421 : decode cL_law 421 = .ok (.iaload, 1) := lwq_ok (e := (421, .iaload)) (List.all_eq_true.mp lwA_3 _ (List.mem_of_getElem? (i := 25) rfl)) rfl
theorem dW_422 : decode cL_law 422 = .ok (.invokevirtual 42, 3) := lwq_ok (e := (422, .invokevirtual 42)) (List.all_eq_true.mp lwA_3 _ (List.mem_of_getElem? (i := 26) rfl)) rfl
theorem dW_425 : decode cL_law 425 = .ok (.pop, 1) := lwq_ok (e := (425, .pop)) (List.all_eq_true.mp lwA_3 _ (List.mem_of_getElem? (i := 27) rfl)) rfl
theorem dW_426 : decode cL_law 426 = .ok (.aload_n 2, 1) := lwq_ok (e := (426, .aload_n 2)) (List.all_eq_true.mp lwA_3 _ (List.mem_of_getElem? (i := 28) rfl)) rfl
theorem dW_427 : decode cL_law 427 = .ok (.aload_n 0, 1) := lwq_ok (e := (427, .aload_n 0)) (List.all_eq_true.mp lwA_3 _ (List.mem_of_getElem? (i := 29) rfl)) rfl
theorem dW_428 : decode cL_law 428 = .ok (.iload 4, 2) := lwq_ok (e := (428, .iload 4)) (List.all_eq_true.mp lwA_3 _ (List.mem_of_getElem? (i := 30) rfl)) rfl
theorem dW_430 : decode cL_law 430 = .ok (.iconst 1, 1) := lwq_ok (e := (430, .iconst 1)) (List.all_eq_true.mp lwA_3 _ (List.mem_of_getElem? (i := 31) rfl)) rfl
theorem dW_431 : decode cL_law 431 = .ok (.iadd, 1) := lwq_ok (e := (431, .iadd)) (List.all_eq_true.mp lwA_3 _ (List.mem_of_getElem? (i := 32) rfl)) rfl
theorem dW_432 : decode cL_law 432 = .ok (.iaload, 1) := lwq_ok (e := (432, .iaload)) (List.all_eq_true.mp lwA_3 _ (List.mem_of_getElem? (i := 33) rfl)) rfl
theorem dW_433 : decode cL_law 433 = .ok (.aload_n 0, 1) := lwq_ok (e := (433, .aload_n 0)) (List.all_eq_true.mp lwA_3 _ (List.mem_of_getElem? (i := 34) rfl)) rfl
theorem dW_434 : decode cL_law 434 = .ok (.iload 4, 2) := lwq_ok (e := (434, .iload 4)) (List.all_eq_true.mp lwA_3 _ (List.mem_of_getElem? (i := 35) rfl)) rfl
theorem dW_436 : decode cL_law 436 = .ok (.iconst 2, 1) := lwq_ok (e := (436, .iconst 2)) (List.all_eq_true.mp lwA_3 _ (List.mem_of_getElem? (i := 36) rfl)) rfl
theorem dW_437 : decode cL_law 437 = .ok (.iadd, 1) := lwq_ok (e := (437, .iadd)) (List.all_eq_true.mp lwA_3 _ (List.mem_of_getElem? (i := 37) rfl)) rfl
theorem dW_438 : decode cL_law 438 = .ok (.iaload, 1) := lwq_ok (e := (438, .iaload)) (List.all_eq_true.mp lwA_3 _ (List.mem_of_getElem? (i := 38) rfl)) rfl
theorem dW_439 : decode cL_law 439 = .ok (.invokevirtual 45, 3) := lwq_ok (e := (439, .invokevirtual 45)) (List.all_eq_true.mp lwA_3 _ (List.mem_of_getElem? (i := 39) rfl)) rfl
def lwL_4 : List (Nat × Instr) := [(442, .pop), (443, .goto 1158), (486, .aload_n 1), (487, .aload_n 0), (488, .iload 4), (490, .iconst 1), (491, .iadd), (492, .iaload), (493, .invokevirtual 52), (496, .pop), (497, .aload_n 2), (498, .aload_n 0), (499, .iload 4), (501, .iconst 1), (502, .iadd), (503, .iaload), (504, .invokevirtual 55), (507, .pop), (508, .goto 1093), (511, .aload_n 1), (512, .aload_n 0), (513, .iload 4), (515, .iconst 1), (516, .iadd), (517, .iaload), (518, .invokevirtual 56), (521, .pop), (522, .aload_n 2), (523, .aload_n 0), (524, .iload 4), (526, .iconst 1), (527, .iadd), (528, .iaload), (529, .invokevirtual 59), (532, .pop), (533, .goto 1068), (536, .aload_n 1), (537, .invokevirtual 60), (540, .pop), (541, .aload_n 2)]
set_option maxRecDepth 100000 in
theorem lwA_4 : lwL_4.all (fun e => xdec cL_law e && xtg e) = true := dW_top (by decide +kernel)
theorem dW_442 : decode cL_law 442 = .ok (.pop, 1) := lwq_ok (e := (442, .pop)) (List.all_eq_true.mp lwA_4 _ (List.mem_of_getElem? (i := 0) rfl)) rfl
theorem dW_443 : decode cL_law 443 = .ok (.goto 1158, 3) := lwq_ok (e := (443, .goto 1158)) (List.all_eq_true.mp lwA_4 _ (List.mem_of_getElem? (i := 1) rfl)) rfl
theorem dW_486 : decode cL_law 486 = .ok (.aload_n 1, 1) := lwq_ok (e := (486, .aload_n 1)) (List.all_eq_true.mp lwA_4 _ (List.mem_of_getElem? (i := 2) rfl)) rfl
theorem dW_487 : decode cL_law 487 = .ok (.aload_n 0, 1) := lwq_ok (e := (487, .aload_n 0)) (List.all_eq_true.mp lwA_4 _ (List.mem_of_getElem? (i := 3) rfl)) rfl
theorem dW_488 : decode cL_law 488 = .ok (.iload 4, 2) := lwq_ok (e := (488, .iload 4)) (List.all_eq_true.mp lwA_4 _ (List.mem_of_getElem? (i := 4) rfl)) rfl
theorem dW_490 : decode cL_law 490 = .ok (.iconst 1, 1) := lwq_ok (e := (490, .iconst 1)) (List.all_eq_true.mp lwA_4 _ (List.mem_of_getElem? (i := 5) rfl)) rfl
theorem dW_491 : decode cL_law 491 = .ok (.iadd, 1) := lwq_ok (e := (491, .iadd)) (List.all_eq_true.mp lwA_4 _ (List.mem_of_getElem? (i := 6) rfl)) rfl
theorem dW_492 : decode cL_law 492 = .ok (.iaload, 1) := lwq_ok (e := (492, .iaload)) (List.all_eq_true.mp lwA_4 _ (List.mem_of_getElem? (i := 7) rfl)) rfl
theorem dW_493 : decode cL_law 493 = .ok (.invokevirtual 52, 3) := lwq_ok (e := (493, .invokevirtual 52)) (List.all_eq_true.mp lwA_4 _ (List.mem_of_getElem? (i := 8) rfl)) rfl
theorem dW_496 : decode cL_law 496 = .ok (.pop, 1) := lwq_ok (e := (496, .pop)) (List.all_eq_true.mp lwA_4 _ (List.mem_of_getElem? (i := 9) rfl)) rfl
theorem dW_497 : decode cL_law 497 = .ok (.aload_n 2, 1) := lwq_ok (e := (497, .aload_n 2)) (List.all_eq_true.mp lwA_4 _ (List.mem_of_getElem? (i := 10) rfl)) rfl
theorem dW_498 : decode cL_law 498 = .ok (.aload_n 0, 1) := lwq_ok (e := (498, .aload_n 0)) (List.all_eq_true.mp lwA_4 _ (List.mem_of_getElem? (i := 11) rfl)) rfl
theorem dW_499 : decode cL_law 499 = .ok (.iload 4, 2) := lwq_ok (e := (499, .iload 4)) (List.all_eq_true.mp lwA_4 _ (List.mem_of_getElem? (i := 12) rfl)) rfl
theorem dW_501 : decode cL_law 501 = .ok (.iconst 1, 1) := lwq_ok (e := (501, .iconst 1)) (List.all_eq_true.mp lwA_4 _ (List.mem_of_getElem? (i := 13) rfl)) rfl
theorem dW_502 : decode cL_law 502 = .ok (.iadd, 1) := lwq_ok (e := (502, .iadd)) (List.all_eq_true.mp lwA_4 _ (List.mem_of_getElem? (i := 14) rfl)) rfl
theorem dW_503 : decode cL_law 503 = .ok (.iaload, 1) := lwq_ok (e := (503, .iaload)) (List.all_eq_true.mp lwA_4 _ (List.mem_of_getElem? (i := 15) rfl)) rfl
theorem dW_504 : decode cL_law 504 = .ok (.invokevirtual 55, 3) := lwq_ok (e := (504, .invokevirtual 55)) (List.all_eq_true.mp lwA_4 _ (List.mem_of_getElem? (i := 16) rfl)) rfl
theorem dW_507 : decode cL_law 507 = .ok (.pop, 1) := lwq_ok (e := (507, .pop)) (List.all_eq_true.mp lwA_4 _ (List.mem_of_getElem? (i := 17) rfl)) rfl
theorem dW_508 : decode cL_law 508 = .ok (.goto 1093, 3) := lwq_ok (e := (508, .goto 1093)) (List.all_eq_true.mp lwA_4 _ (List.mem_of_getElem? (i := 18) rfl)) rfl
theorem dW_511 : decode cL_law 511 = .ok (.aload_n 1, 1) := lwq_ok (e := (511, .aload_n 1)) (List.all_eq_true.mp lwA_4 _ (List.mem_of_getElem? (i := 19) rfl)) rfl
theorem dW_512 : decode cL_law 512 = .ok (.aload_n 0, 1) := lwq_ok (e := (512, .aload_n 0)) (List.all_eq_true.mp lwA_4 _ (List.mem_of_getElem? (i := 20) rfl)) rfl
theorem dW_513 : decode cL_law 513 = .ok (.iload 4, 2) := lwq_ok (e := (513, .iload 4)) (List.all_eq_true.mp lwA_4 _ (List.mem_of_getElem? (i := 21) rfl)) rfl
theorem dW_515 : decode cL_law 515 = .ok (.iconst 1, 1) := lwq_ok (e := (515, .iconst 1)) (List.all_eq_true.mp lwA_4 _ (List.mem_of_getElem? (i := 22) rfl)) rfl
theorem dW_516 : decode cL_law 516 = .ok (.iadd, 1) := lwq_ok (e := (516, .iadd)) (List.all_eq_true.mp lwA_4 _ (List.mem_of_getElem? (i := 23) rfl)) rfl
theorem dW_517 : decode cL_law 517 = .ok (.iaload, 1) := lwq_ok (e := (517, .iaload)) (List.all_eq_true.mp lwA_4 _ (List.mem_of_getElem? (i := 24) rfl)) rfl
theorem dW_518 : decode cL_law 518 = .ok (.invokevirtual 56, 3) := lwq_ok (e := (518, .invokevirtual 56)) (List.all_eq_true.mp lwA_4 _ (List.mem_of_getElem? (i := 25) rfl)) rfl
theorem dW_521 : decode cL_law 521 = .ok (.pop, 1) := lwq_ok (e := (521, .pop)) (List.all_eq_true.mp lwA_4 _ (List.mem_of_getElem? (i := 26) rfl)) rfl
theorem dW_522 : decode cL_law 522 = .ok (.aload_n 2, 1) := lwq_ok (e := (522, .aload_n 2)) (List.all_eq_true.mp lwA_4 _ (List.mem_of_getElem? (i := 27) rfl)) rfl
theorem dW_523 : decode cL_law 523 = .ok (.aload_n 0, 1) := lwq_ok (e := (523, .aload_n 0)) (List.all_eq_true.mp lwA_4 _ (List.mem_of_getElem? (i := 28) rfl)) rfl
theorem dW_524 : decode cL_law 524 = .ok (.iload 4, 2) := lwq_ok (e := (524, .iload 4)) (List.all_eq_true.mp lwA_4 _ (List.mem_of_getElem? (i := 29) rfl)) rfl
theorem dW_526 : decode cL_law 526 = .ok (.iconst 1, 1) := lwq_ok (e := (526, .iconst 1)) (List.all_eq_true.mp lwA_4 _ (List.mem_of_getElem? (i := 30) rfl)) rfl
theorem dW_527 : decode cL_law 527 = .ok (.iadd, 1) := lwq_ok (e := (527, .iadd)) (List.all_eq_true.mp lwA_4 _ (List.mem_of_getElem? (i := 31) rfl)) rfl
theorem dW_528 : decode cL_law 528 = .ok (.iaload, 1) := lwq_ok (e := (528, .iaload)) (List.all_eq_true.mp lwA_4 _ (List.mem_of_getElem? (i := 32) rfl)) rfl
theorem dW_529 : decode cL_law 529 = .ok (.invokevirtual 59, 3) := lwq_ok (e := (529, .invokevirtual 59)) (List.all_eq_true.mp lwA_4 _ (List.mem_of_getElem? (i := 33) rfl)) rfl
theorem dW_532 : decode cL_law 532 = .ok (.pop, 1) := lwq_ok (e := (532, .pop)) (List.all_eq_true.mp lwA_4 _ (List.mem_of_getElem? (i := 34) rfl)) rfl
theorem dW_533 : decode cL_law 533 = .ok (.goto 1068, 3) := lwq_ok (e := (533, .goto 1068)) (List.all_eq_true.mp lwA_4 _ (List.mem_of_getElem? (i := 35) rfl)) rfl
theorem dW_536 : decode cL_law 536 = .ok (.aload_n 1, 1) := lwq_ok (e := (536, .aload_n 1)) (List.all_eq_true.mp lwA_4 _ (List.mem_of_getElem? (i := 36) rfl)) rfl
theorem dW_537 : decode cL_law 537 = .ok (.invokevirtual 60, 3) := lwq_ok (e := (537, .invokevirtual 60)) (List.all_eq_true.mp lwA_4 _ (List.mem_of_getElem? (i := 37) rfl)) rfl
theorem dW_540 : decode cL_law 540 = .ok (.pop, 1) := lwq_ok (e := (540, .pop)) (List.all_eq_true.mp lwA_4 _ (List.mem_of_getElem? (i := 38) rfl)) rfl
theorem dW_541 : decode cL_law 541 = .ok (.aload_n 2, 1) := lwq_ok (e := (541, .aload_n 2)) (List.all_eq_true.mp lwA_4 _ (List.mem_of_getElem? (i := 39) rfl)) rfl
def lwL_5 : List (Nat × Instr) := [(542, .invokevirtual 64), (545, .pop), (546, .goto 1055), (549, .aload_n 1), (550, .aload_n 0), (551, .iload 4), (553, .iconst 1), (554, .iadd), (555, .iaload), (556, .invokevirtual 65), (559, .pop), (560, .aload_n 2), (561, .aload_n 0), (562, .iload 4), (564, .iconst 1), (565, .iadd), (566, .iaload), (567, .invokevirtual 68), (570, .pop), (571, .goto 1030), (574, .aload_n 1), (575, .aload_n 0), (576, .iload 4), (578, .iconst 1), (579, .iadd), (580, .iaload), (581, .invokevirtual 69), (584, .pop), (585, .aload_n 2), (586, .aload_n 0), (587, .iload 4), (589, .iconst 1), (590, .iadd), (591, .iaload), (592, .invokevirtual 72), (595, .pop), (596, .goto 1005), (599, .aload_n 1), (600, .aload_n 0), (601, .iload 4)]
set_option maxRecDepth 100000 in
theorem lwA_5 : lwL_5.all (fun e => xdec cL_law e && xtg e) = true := dW_top (by decide +kernel)
theorem dW_542 : decode cL_law 542 = .ok (.invokevirtual 64, 3) := lwq_ok (e := (542, .invokevirtual 64)) (List.all_eq_true.mp lwA_5 _ (List.mem_of_getElem? (i := 0) rfl)) rfl
theorem dW_545 : decode cL_law 545 = .ok (.pop, 1) := lwq_ok (e := (545, .pop)) (List.all_eq_true.mp lwA_5 _ (List.mem_of_getElem? (i := 1) rfl)) rfl
theorem dW_546 : decode cL_law 546 = .ok (.goto 1055, 3) := lwq_ok (e := (546, .goto 1055)) (List.all_eq_true.mp lwA_5 _ (List.mem_of_getElem? (i := 2) rfl)) rfl
theorem dW_549 : decode cL_law 549 = .ok (.aload_n 1, 1) := lwq_ok (e := (549, .aload_n 1)) (List.all_eq_true.mp lwA_5 _ (List.mem_of_getElem? (i := 3) rfl)) rfl
theorem dW_550 : decode cL_law 550 = .ok (.aload_n 0, 1) := lwq_ok (e := (550, .aload_n 0)) (List.all_eq_true.mp lwA_5 _ (List.mem_of_getElem? (i := 4) rfl)) rfl
theorem dW_551 : decode cL_law 551 = .ok (.iload 4, 2) := lwq_ok (e := (551, .iload 4)) (List.all_eq_true.mp lwA_5 _ (List.mem_of_getElem? (i := 5) rfl)) rfl
theorem dW_553 : decode cL_law 553 = .ok (.iconst 1, 1) := lwq_ok (e := (553, .iconst 1)) (List.all_eq_true.mp lwA_5 _ (List.mem_of_getElem? (i := 6) rfl)) rfl
theorem dW_554 : decode cL_law 554 = .ok (.iadd, 1) := lwq_ok (e := (554, .iadd)) (List.all_eq_true.mp lwA_5 _ (List.mem_of_getElem? (i := 7) rfl)) rfl
theorem dW_555 : decode cL_law 555 = .ok (.iaload, 1) := lwq_ok (e := (555, .iaload)) (List.all_eq_true.mp lwA_5 _ (List.mem_of_getElem? (i := 8) rfl)) rfl
theorem dW_556 : decode cL_law 556 = .ok (.invokevirtual 65, 3) := lwq_ok (e := (556, .invokevirtual 65)) (List.all_eq_true.mp lwA_5 _ (List.mem_of_getElem? (i := 9) rfl)) rfl
theorem dW_559 : decode cL_law 559 = .ok (.pop, 1) := lwq_ok (e := (559, .pop)) (List.all_eq_true.mp lwA_5 _ (List.mem_of_getElem? (i := 10) rfl)) rfl
theorem dW_560 : decode cL_law 560 = .ok (.aload_n 2, 1) := lwq_ok (e := (560, .aload_n 2)) (List.all_eq_true.mp lwA_5 _ (List.mem_of_getElem? (i := 11) rfl)) rfl
theorem dW_561 : decode cL_law 561 = .ok (.aload_n 0, 1) := lwq_ok (e := (561, .aload_n 0)) (List.all_eq_true.mp lwA_5 _ (List.mem_of_getElem? (i := 12) rfl)) rfl
theorem dW_562 : decode cL_law 562 = .ok (.iload 4, 2) := lwq_ok (e := (562, .iload 4)) (List.all_eq_true.mp lwA_5 _ (List.mem_of_getElem? (i := 13) rfl)) rfl
theorem dW_564 : decode cL_law 564 = .ok (.iconst 1, 1) := lwq_ok (e := (564, .iconst 1)) (List.all_eq_true.mp lwA_5 _ (List.mem_of_getElem? (i := 14) rfl)) rfl
theorem dW_565 : decode cL_law 565 = .ok (.iadd, 1) := lwq_ok (e := (565, .iadd)) (List.all_eq_true.mp lwA_5 _ (List.mem_of_getElem? (i := 15) rfl)) rfl
theorem dW_566 : decode cL_law 566 = .ok (.iaload, 1) := lwq_ok (e := (566, .iaload)) (List.all_eq_true.mp lwA_5 _ (List.mem_of_getElem? (i := 16) rfl)) rfl
theorem dW_567 : decode cL_law 567 = .ok (.invokevirtual 68, 3) := lwq_ok (e := (567, .invokevirtual 68)) (List.all_eq_true.mp lwA_5 _ (List.mem_of_getElem? (i := 17) rfl)) rfl
theorem dW_570 : decode cL_law 570 = .ok (.pop, 1) := lwq_ok (e := (570, .pop)) (List.all_eq_true.mp lwA_5 _ (List.mem_of_getElem? (i := 18) rfl)) rfl
theorem dW_571 : decode cL_law 571 = .ok (.goto 1030, 3) := lwq_ok (e := (571, .goto 1030)) (List.all_eq_true.mp lwA_5 _ (List.mem_of_getElem? (i := 19) rfl)) rfl
theorem dW_574 : decode cL_law 574 = .ok (.aload_n 1, 1) := lwq_ok (e := (574, .aload_n 1)) (List.all_eq_true.mp lwA_5 _ (List.mem_of_getElem? (i := 20) rfl)) rfl
theorem dW_575 : decode cL_law 575 = .ok (.aload_n 0, 1) := lwq_ok (e := (575, .aload_n 0)) (List.all_eq_true.mp lwA_5 _ (List.mem_of_getElem? (i := 21) rfl)) rfl
theorem dW_576 : decode cL_law 576 = .ok (.iload 4, 2) := lwq_ok (e := (576, .iload 4)) (List.all_eq_true.mp lwA_5 _ (List.mem_of_getElem? (i := 22) rfl)) rfl
theorem dW_578 : decode cL_law 578 = .ok (.iconst 1, 1) := lwq_ok (e := (578, .iconst 1)) (List.all_eq_true.mp lwA_5 _ (List.mem_of_getElem? (i := 23) rfl)) rfl
theorem dW_579 : decode cL_law 579 = .ok (.iadd, 1) := lwq_ok (e := (579, .iadd)) (List.all_eq_true.mp lwA_5 _ (List.mem_of_getElem? (i := 24) rfl)) rfl
theorem dW_580 : decode cL_law 580 = .ok (.iaload, 1) := lwq_ok (e := (580, .iaload)) (List.all_eq_true.mp lwA_5 _ (List.mem_of_getElem? (i := 25) rfl)) rfl
theorem dW_581 : decode cL_law 581 = .ok (.invokevirtual 69, 3) := lwq_ok (e := (581, .invokevirtual 69)) (List.all_eq_true.mp lwA_5 _ (List.mem_of_getElem? (i := 26) rfl)) rfl
theorem dW_584 : decode cL_law 584 = .ok (.pop, 1) := lwq_ok (e := (584, .pop)) (List.all_eq_true.mp lwA_5 _ (List.mem_of_getElem? (i := 27) rfl)) rfl
theorem dW_585 : decode cL_law 585 = .ok (.aload_n 2, 1) := lwq_ok (e := (585, .aload_n 2)) (List.all_eq_true.mp lwA_5 _ (List.mem_of_getElem? (i := 28) rfl)) rfl
theorem dW_586 : decode cL_law 586 = .ok (.aload_n 0, 1) := lwq_ok (e := (586, .aload_n 0)) (List.all_eq_true.mp lwA_5 _ (List.mem_of_getElem? (i := 29) rfl)) rfl
theorem dW_587 : decode cL_law 587 = .ok (.iload 4, 2) := lwq_ok (e := (587, .iload 4)) (List.all_eq_true.mp lwA_5 _ (List.mem_of_getElem? (i := 30) rfl)) rfl
theorem dW_589 : decode cL_law 589 = .ok (.iconst 1, 1) := lwq_ok (e := (589, .iconst 1)) (List.all_eq_true.mp lwA_5 _ (List.mem_of_getElem? (i := 31) rfl)) rfl
theorem dW_590 : decode cL_law 590 = .ok (.iadd, 1) := lwq_ok (e := (590, .iadd)) (List.all_eq_true.mp lwA_5 _ (List.mem_of_getElem? (i := 32) rfl)) rfl
theorem dW_591 : decode cL_law 591 = .ok (.iaload, 1) := lwq_ok (e := (591, .iaload)) (List.all_eq_true.mp lwA_5 _ (List.mem_of_getElem? (i := 33) rfl)) rfl
theorem dW_592 : decode cL_law 592 = .ok (.invokevirtual 72, 3) := lwq_ok (e := (592, .invokevirtual 72)) (List.all_eq_true.mp lwA_5 _ (List.mem_of_getElem? (i := 34) rfl)) rfl
theorem dW_595 : decode cL_law 595 = .ok (.pop, 1) := lwq_ok (e := (595, .pop)) (List.all_eq_true.mp lwA_5 _ (List.mem_of_getElem? (i := 35) rfl)) rfl
theorem dW_596 : decode cL_law 596 = .ok (.goto 1005, 3) := lwq_ok (e := (596, .goto 1005)) (List.all_eq_true.mp lwA_5 _ (List.mem_of_getElem? (i := 36) rfl)) rfl
theorem dW_599 : decode cL_law 599 = .ok (.aload_n 1, 1) := lwq_ok (e := (599, .aload_n 1)) (List.all_eq_true.mp lwA_5 _ (List.mem_of_getElem? (i := 37) rfl)) rfl
theorem dW_600 : decode cL_law 600 = .ok (.aload_n 0, 1) := lwq_ok (e := (600, .aload_n 0)) (List.all_eq_true.mp lwA_5 _ (List.mem_of_getElem? (i := 38) rfl)) rfl
theorem dW_601 : decode cL_law 601 = .ok (.iload 4, 2) := lwq_ok (e := (601, .iload 4)) (List.all_eq_true.mp lwA_5 _ (List.mem_of_getElem? (i := 39) rfl)) rfl
def lwL_6 : List (Nat × Instr) := [(603, .iconst 1), (604, .iadd), (605, .iaload), (606, .aload_n 0), (607, .iload 4), (609, .iconst 2), (610, .iadd), (611, .iaload), (612, .invokevirtual 73), (615, .pop), (616, .aload_n 2), (617, .aload_n 0), (618, .iload 4), (620, .iconst 1), (621, .iadd), (622, .iaload), (623, .aload_n 0), (624, .iload 4), (626, .iconst 2), (627, .iadd), (628, .iaload), (629, .invokevirtual 76), (632, .pop), (633, .goto 968), (636, .aload_n 1), (637, .aload_n 0), (638, .iload 4), (640, .iconst 1), (641, .iadd), (642, .iaload), (643, .invokevirtual 77), (646, .pop), (647, .aload_n 2), (648, .aload_n 0), (649, .iload 4), (651, .iconst 1), (652, .iadd), (653, .iaload), (654, .invokevirtual 80), (657, .pop)]
set_option maxRecDepth 100000 in
theorem lwA_6 : lwL_6.all (fun e => xdec cL_law e && xtg e) = true := dW_top (by decide +kernel)
theorem dW_603 : decode cL_law 603 = .ok (.iconst 1, 1) := lwq_ok (e := (603, .iconst 1)) (List.all_eq_true.mp lwA_6 _ (List.mem_of_getElem? (i := 0) rfl)) rfl
theorem dW_604 : decode cL_law 604 = .ok (.iadd, 1) := lwq_ok (e := (604, .iadd)) (List.all_eq_true.mp lwA_6 _ (List.mem_of_getElem? (i := 1) rfl)) rfl
theorem dW_605 : decode cL_law 605 = .ok (.iaload, 1) := lwq_ok (e := (605, .iaload)) (List.all_eq_true.mp lwA_6 _ (List.mem_of_getElem? (i := 2) rfl)) rfl
theorem dW_606 : decode cL_law 606 = .ok (.aload_n 0, 1) := lwq_ok (e := (606, .aload_n 0)) (List.all_eq_true.mp lwA_6 _ (List.mem_of_getElem? (i := 3) rfl)) rfl
theorem dW_607 : decode cL_law 607 = .ok (.iload 4, 2) := lwq_ok (e := (607, .iload 4)) (List.all_eq_true.mp lwA_6 _ (List.mem_of_getElem? (i := 4) rfl)) rfl
theorem dW_609 : decode cL_law 609 = .ok (.iconst 2, 1) := lwq_ok (e := (609, .iconst 2)) (List.all_eq_true.mp lwA_6 _ (List.mem_of_getElem? (i := 5) rfl)) rfl
theorem dW_610 : decode cL_law 610 = .ok (.iadd, 1) := lwq_ok (e := (610, .iadd)) (List.all_eq_true.mp lwA_6 _ (List.mem_of_getElem? (i := 6) rfl)) rfl
theorem dW_611 : decode cL_law 611 = .ok (.iaload, 1) := lwq_ok (e := (611, .iaload)) (List.all_eq_true.mp lwA_6 _ (List.mem_of_getElem? (i := 7) rfl)) rfl
theorem dW_612 : decode cL_law 612 = .ok (.invokevirtual 73, 3) := lwq_ok (e := (612, .invokevirtual 73)) (List.all_eq_true.mp lwA_6 _ (List.mem_of_getElem? (i := 8) rfl)) rfl
theorem dW_615 : decode cL_law 615 = .ok (.pop, 1) := lwq_ok (e := (615, .pop)) (List.all_eq_true.mp lwA_6 _ (List.mem_of_getElem? (i := 9) rfl)) rfl
theorem dW_616 : decode cL_law 616 = .ok (.aload_n 2, 1) := lwq_ok (e := (616, .aload_n 2)) (List.all_eq_true.mp lwA_6 _ (List.mem_of_getElem? (i := 10) rfl)) rfl
theorem dW_617 : decode cL_law 617 = .ok (.aload_n 0, 1) := lwq_ok (e := (617, .aload_n 0)) (List.all_eq_true.mp lwA_6 _ (List.mem_of_getElem? (i := 11) rfl)) rfl
theorem dW_618 : decode cL_law 618 = .ok (.iload 4, 2) := lwq_ok (e := (618, .iload 4)) (List.all_eq_true.mp lwA_6 _ (List.mem_of_getElem? (i := 12) rfl)) rfl
theorem dW_620 : decode cL_law 620 = .ok (.iconst 1, 1) := lwq_ok (e := (620, .iconst 1)) (List.all_eq_true.mp lwA_6 _ (List.mem_of_getElem? (i := 13) rfl)) rfl
theorem dW_621 : decode cL_law 621 = .ok (.iadd, 1) := lwq_ok (e := (621, .iadd)) (List.all_eq_true.mp lwA_6 _ (List.mem_of_getElem? (i := 14) rfl)) rfl
theorem dW_622 : decode cL_law 622 = .ok (.iaload, 1) := lwq_ok (e := (622, .iaload)) (List.all_eq_true.mp lwA_6 _ (List.mem_of_getElem? (i := 15) rfl)) rfl
theorem dW_623 : decode cL_law 623 = .ok (.aload_n 0, 1) := lwq_ok (e := (623, .aload_n 0)) (List.all_eq_true.mp lwA_6 _ (List.mem_of_getElem? (i := 16) rfl)) rfl
theorem dW_624 : decode cL_law 624 = .ok (.iload 4, 2) := lwq_ok (e := (624, .iload 4)) (List.all_eq_true.mp lwA_6 _ (List.mem_of_getElem? (i := 17) rfl)) rfl
theorem dW_626 : decode cL_law 626 = .ok (.iconst 2, 1) := lwq_ok (e := (626, .iconst 2)) (List.all_eq_true.mp lwA_6 _ (List.mem_of_getElem? (i := 18) rfl)) rfl
theorem dW_627 : decode cL_law 627 = .ok (.iadd, 1) := lwq_ok (e := (627, .iadd)) (List.all_eq_true.mp lwA_6 _ (List.mem_of_getElem? (i := 19) rfl)) rfl
theorem dW_628 : decode cL_law 628 = .ok (.iaload, 1) := lwq_ok (e := (628, .iaload)) (List.all_eq_true.mp lwA_6 _ (List.mem_of_getElem? (i := 20) rfl)) rfl
theorem dW_629 : decode cL_law 629 = .ok (.invokevirtual 76, 3) := lwq_ok (e := (629, .invokevirtual 76)) (List.all_eq_true.mp lwA_6 _ (List.mem_of_getElem? (i := 21) rfl)) rfl
theorem dW_632 : decode cL_law 632 = .ok (.pop, 1) := lwq_ok (e := (632, .pop)) (List.all_eq_true.mp lwA_6 _ (List.mem_of_getElem? (i := 22) rfl)) rfl
theorem dW_633 : decode cL_law 633 = .ok (.goto 968, 3) := lwq_ok (e := (633, .goto 968)) (List.all_eq_true.mp lwA_6 _ (List.mem_of_getElem? (i := 23) rfl)) rfl
theorem dW_636 : decode cL_law 636 = .ok (.aload_n 1, 1) := lwq_ok (e := (636, .aload_n 1)) (List.all_eq_true.mp lwA_6 _ (List.mem_of_getElem? (i := 24) rfl)) rfl
theorem dW_637 : decode cL_law 637 = .ok (.aload_n 0, 1) := lwq_ok (e := (637, .aload_n 0)) (List.all_eq_true.mp lwA_6 _ (List.mem_of_getElem? (i := 25) rfl)) rfl
theorem dW_638 : decode cL_law 638 = .ok (.iload 4, 2) := lwq_ok (e := (638, .iload 4)) (List.all_eq_true.mp lwA_6 _ (List.mem_of_getElem? (i := 26) rfl)) rfl
theorem dW_640 : decode cL_law 640 = .ok (.iconst 1, 1) := lwq_ok (e := (640, .iconst 1)) (List.all_eq_true.mp lwA_6 _ (List.mem_of_getElem? (i := 27) rfl)) rfl
theorem dW_641 : decode cL_law 641 = .ok (.iadd, 1) := lwq_ok (e := (641, .iadd)) (List.all_eq_true.mp lwA_6 _ (List.mem_of_getElem? (i := 28) rfl)) rfl
theorem dW_642 : decode cL_law 642 = .ok (.iaload, 1) := lwq_ok (e := (642, .iaload)) (List.all_eq_true.mp lwA_6 _ (List.mem_of_getElem? (i := 29) rfl)) rfl
theorem dW_643 : decode cL_law 643 = .ok (.invokevirtual 77, 3) := lwq_ok (e := (643, .invokevirtual 77)) (List.all_eq_true.mp lwA_6 _ (List.mem_of_getElem? (i := 30) rfl)) rfl
theorem dW_646 : decode cL_law 646 = .ok (.pop, 1) := lwq_ok (e := (646, .pop)) (List.all_eq_true.mp lwA_6 _ (List.mem_of_getElem? (i := 31) rfl)) rfl
theorem dW_647 : decode cL_law 647 = .ok (.aload_n 2, 1) := lwq_ok (e := (647, .aload_n 2)) (List.all_eq_true.mp lwA_6 _ (List.mem_of_getElem? (i := 32) rfl)) rfl
theorem dW_648 : decode cL_law 648 = .ok (.aload_n 0, 1) := lwq_ok (e := (648, .aload_n 0)) (List.all_eq_true.mp lwA_6 _ (List.mem_of_getElem? (i := 33) rfl)) rfl
theorem dW_649 : decode cL_law 649 = .ok (.iload 4, 2) := lwq_ok (e := (649, .iload 4)) (List.all_eq_true.mp lwA_6 _ (List.mem_of_getElem? (i := 34) rfl)) rfl
theorem dW_651 : decode cL_law 651 = .ok (.iconst 1, 1) := lwq_ok (e := (651, .iconst 1)) (List.all_eq_true.mp lwA_6 _ (List.mem_of_getElem? (i := 35) rfl)) rfl
theorem dW_652 : decode cL_law 652 = .ok (.iadd, 1) := lwq_ok (e := (652, .iadd)) (List.all_eq_true.mp lwA_6 _ (List.mem_of_getElem? (i := 36) rfl)) rfl
theorem dW_653 : decode cL_law 653 = .ok (.iaload, 1) := lwq_ok (e := (653, .iaload)) (List.all_eq_true.mp lwA_6 _ (List.mem_of_getElem? (i := 37) rfl)) rfl
theorem dW_654 : decode cL_law 654 = .ok (.invokevirtual 80, 3) := lwq_ok (e := (654, .invokevirtual 80)) (List.all_eq_true.mp lwA_6 _ (List.mem_of_getElem? (i := 38) rfl)) rfl
theorem dW_657 : decode cL_law 657 = .ok (.pop, 1) := lwq_ok (e := (657, .pop)) (List.all_eq_true.mp lwA_6 _ (List.mem_of_getElem? (i := 39) rfl)) rfl
def lwL_7 : List (Nat × Instr) := [(658, .goto 943), (661, .aload_n 1), (662, .aload_n 0), (663, .iload 4), (665, .iconst 1), (666, .iadd), (667, .iaload), (668, .invokevirtual 81), (671, .pop), (672, .aload_n 2), (673, .aload_n 0), (674, .iload 4), (676, .iconst 1), (677, .iadd), (678, .iaload), (679, .invokevirtual 84), (682, .pop), (683, .goto 918), (686, .aload_n 1), (687, .aload_n 0), (688, .iload 4), (690, .iconst 1), (691, .iadd), (692, .iaload), (693, .aload_n 0), (694, .iload 4), (696, .iconst 2), (697, .iadd), (698, .iaload), (699, .i2l), (700, .bipush 32), (702, .lshl), (703, .aload_n 0), (704, .iload 4), (706, .iconst 3), (707, .iadd), (708, .iaload), (709, .i2l), (710, .ldc2_w 85), (713, .land)]
set_option maxRecDepth 100000 in
theorem lwA_7 : lwL_7.all (fun e => xdec cL_law e && xtg e) = true := dW_top (by decide +kernel)
theorem dW_658 : decode cL_law 658 = .ok (.goto 943, 3) := lwq_ok (e := (658, .goto 943)) (List.all_eq_true.mp lwA_7 _ (List.mem_of_getElem? (i := 0) rfl)) rfl
theorem dW_661 : decode cL_law 661 = .ok (.aload_n 1, 1) := lwq_ok (e := (661, .aload_n 1)) (List.all_eq_true.mp lwA_7 _ (List.mem_of_getElem? (i := 1) rfl)) rfl
theorem dW_662 : decode cL_law 662 = .ok (.aload_n 0, 1) := lwq_ok (e := (662, .aload_n 0)) (List.all_eq_true.mp lwA_7 _ (List.mem_of_getElem? (i := 2) rfl)) rfl
theorem dW_663 : decode cL_law 663 = .ok (.iload 4, 2) := lwq_ok (e := (663, .iload 4)) (List.all_eq_true.mp lwA_7 _ (List.mem_of_getElem? (i := 3) rfl)) rfl
theorem dW_665 : decode cL_law 665 = .ok (.iconst 1, 1) := lwq_ok (e := (665, .iconst 1)) (List.all_eq_true.mp lwA_7 _ (List.mem_of_getElem? (i := 4) rfl)) rfl
theorem dW_666 : decode cL_law 666 = .ok (.iadd, 1) := lwq_ok (e := (666, .iadd)) (List.all_eq_true.mp lwA_7 _ (List.mem_of_getElem? (i := 5) rfl)) rfl
theorem dW_667 : decode cL_law 667 = .ok (.iaload, 1) := lwq_ok (e := (667, .iaload)) (List.all_eq_true.mp lwA_7 _ (List.mem_of_getElem? (i := 6) rfl)) rfl
theorem dW_668 : decode cL_law 668 = .ok (.invokevirtual 81, 3) := lwq_ok (e := (668, .invokevirtual 81)) (List.all_eq_true.mp lwA_7 _ (List.mem_of_getElem? (i := 7) rfl)) rfl
theorem dW_671 : decode cL_law 671 = .ok (.pop, 1) := lwq_ok (e := (671, .pop)) (List.all_eq_true.mp lwA_7 _ (List.mem_of_getElem? (i := 8) rfl)) rfl
theorem dW_672 : decode cL_law 672 = .ok (.aload_n 2, 1) := lwq_ok (e := (672, .aload_n 2)) (List.all_eq_true.mp lwA_7 _ (List.mem_of_getElem? (i := 9) rfl)) rfl
theorem dW_673 : decode cL_law 673 = .ok (.aload_n 0, 1) := lwq_ok (e := (673, .aload_n 0)) (List.all_eq_true.mp lwA_7 _ (List.mem_of_getElem? (i := 10) rfl)) rfl
theorem dW_674 : decode cL_law 674 = .ok (.iload 4, 2) := lwq_ok (e := (674, .iload 4)) (List.all_eq_true.mp lwA_7 _ (List.mem_of_getElem? (i := 11) rfl)) rfl
theorem dW_676 : decode cL_law 676 = .ok (.iconst 1, 1) := lwq_ok (e := (676, .iconst 1)) (List.all_eq_true.mp lwA_7 _ (List.mem_of_getElem? (i := 12) rfl)) rfl
theorem dW_677 : decode cL_law 677 = .ok (.iadd, 1) := lwq_ok (e := (677, .iadd)) (List.all_eq_true.mp lwA_7 _ (List.mem_of_getElem? (i := 13) rfl)) rfl
theorem dW_678 : decode cL_law 678 = .ok (.iaload, 1) := lwq_ok (e := (678, .iaload)) (List.all_eq_true.mp lwA_7 _ (List.mem_of_getElem? (i := 14) rfl)) rfl
theorem dW_679 : decode cL_law 679 = .ok (.invokevirtual 84, 3) := lwq_ok (e := (679, .invokevirtual 84)) (List.all_eq_true.mp lwA_7 _ (List.mem_of_getElem? (i := 15) rfl)) rfl
theorem dW_682 : decode cL_law 682 = .ok (.pop, 1) := lwq_ok (e := (682, .pop)) (List.all_eq_true.mp lwA_7 _ (List.mem_of_getElem? (i := 16) rfl)) rfl
theorem dW_683 : decode cL_law 683 = .ok (.goto 918, 3) := lwq_ok (e := (683, .goto 918)) (List.all_eq_true.mp lwA_7 _ (List.mem_of_getElem? (i := 17) rfl)) rfl
theorem dW_686 : decode cL_law 686 = .ok (.aload_n 1, 1) := lwq_ok (e := (686, .aload_n 1)) (List.all_eq_true.mp lwA_7 _ (List.mem_of_getElem? (i := 18) rfl)) rfl
theorem dW_687 : decode cL_law 687 = .ok (.aload_n 0, 1) := lwq_ok (e := (687, .aload_n 0)) (List.all_eq_true.mp lwA_7 _ (List.mem_of_getElem? (i := 19) rfl)) rfl
theorem dW_688 : decode cL_law 688 = .ok (.iload 4, 2) := lwq_ok (e := (688, .iload 4)) (List.all_eq_true.mp lwA_7 _ (List.mem_of_getElem? (i := 20) rfl)) rfl
theorem dW_690 : decode cL_law 690 = .ok (.iconst 1, 1) := lwq_ok (e := (690, .iconst 1)) (List.all_eq_true.mp lwA_7 _ (List.mem_of_getElem? (i := 21) rfl)) rfl
theorem dW_691 : decode cL_law 691 = .ok (.iadd, 1) := lwq_ok (e := (691, .iadd)) (List.all_eq_true.mp lwA_7 _ (List.mem_of_getElem? (i := 22) rfl)) rfl
theorem dW_692 : decode cL_law 692 = .ok (.iaload, 1) := lwq_ok (e := (692, .iaload)) (List.all_eq_true.mp lwA_7 _ (List.mem_of_getElem? (i := 23) rfl)) rfl
theorem dW_693 : decode cL_law 693 = .ok (.aload_n 0, 1) := lwq_ok (e := (693, .aload_n 0)) (List.all_eq_true.mp lwA_7 _ (List.mem_of_getElem? (i := 24) rfl)) rfl
theorem dW_694 : decode cL_law 694 = .ok (.iload 4, 2) := lwq_ok (e := (694, .iload 4)) (List.all_eq_true.mp lwA_7 _ (List.mem_of_getElem? (i := 25) rfl)) rfl
theorem dW_696 : decode cL_law 696 = .ok (.iconst 2, 1) := lwq_ok (e := (696, .iconst 2)) (List.all_eq_true.mp lwA_7 _ (List.mem_of_getElem? (i := 26) rfl)) rfl
theorem dW_697 : decode cL_law 697 = .ok (.iadd, 1) := lwq_ok (e := (697, .iadd)) (List.all_eq_true.mp lwA_7 _ (List.mem_of_getElem? (i := 27) rfl)) rfl
theorem dW_698 : decode cL_law 698 = .ok (.iaload, 1) := lwq_ok (e := (698, .iaload)) (List.all_eq_true.mp lwA_7 _ (List.mem_of_getElem? (i := 28) rfl)) rfl
theorem dW_699 : decode cL_law 699 = .ok (.i2l, 1) := lwq_ok (e := (699, .i2l)) (List.all_eq_true.mp lwA_7 _ (List.mem_of_getElem? (i := 29) rfl)) rfl
theorem dW_700 : decode cL_law 700 = .ok (.bipush 32, 2) := lwq_ok (e := (700, .bipush 32)) (List.all_eq_true.mp lwA_7 _ (List.mem_of_getElem? (i := 30) rfl)) rfl
theorem dW_702 : decode cL_law 702 = .ok (.lshl, 1) := lwq_ok (e := (702, .lshl)) (List.all_eq_true.mp lwA_7 _ (List.mem_of_getElem? (i := 31) rfl)) rfl
theorem dW_703 : decode cL_law 703 = .ok (.aload_n 0, 1) := lwq_ok (e := (703, .aload_n 0)) (List.all_eq_true.mp lwA_7 _ (List.mem_of_getElem? (i := 32) rfl)) rfl
theorem dW_704 : decode cL_law 704 = .ok (.iload 4, 2) := lwq_ok (e := (704, .iload 4)) (List.all_eq_true.mp lwA_7 _ (List.mem_of_getElem? (i := 33) rfl)) rfl
theorem dW_706 : decode cL_law 706 = .ok (.iconst 3, 1) := lwq_ok (e := (706, .iconst 3)) (List.all_eq_true.mp lwA_7 _ (List.mem_of_getElem? (i := 34) rfl)) rfl
theorem dW_707 : decode cL_law 707 = .ok (.iadd, 1) := lwq_ok (e := (707, .iadd)) (List.all_eq_true.mp lwA_7 _ (List.mem_of_getElem? (i := 35) rfl)) rfl
theorem dW_708 : decode cL_law 708 = .ok (.iaload, 1) := lwq_ok (e := (708, .iaload)) (List.all_eq_true.mp lwA_7 _ (List.mem_of_getElem? (i := 36) rfl)) rfl
theorem dW_709 : decode cL_law 709 = .ok (.i2l, 1) := lwq_ok (e := (709, .i2l)) (List.all_eq_true.mp lwA_7 _ (List.mem_of_getElem? (i := 37) rfl)) rfl
theorem dW_710 : decode cL_law 710 = .ok (.ldc2_w 85, 3) := lwq_ok (e := (710, .ldc2_w 85)) (List.all_eq_true.mp lwA_7 _ (List.mem_of_getElem? (i := 38) rfl)) rfl
theorem dW_713 : decode cL_law 713 = .ok (.land, 1) := lwq_ok (e := (713, .land)) (List.all_eq_true.mp lwA_7 _ (List.mem_of_getElem? (i := 39) rfl)) rfl
def lwL_8 : List (Nat × Instr) := [(714, .lor), (715, .invokevirtual 87), (718, .pop), (719, .aload_n 2), (720, .aload_n 0), (721, .iload 4), (723, .iconst 1), (724, .iadd), (725, .iaload), (726, .aload_n 0), (727, .iload 4), (729, .iconst 2), (730, .iadd), (731, .iaload), (732, .i2l), (733, .bipush 32), (735, .lshl), (736, .aload_n 0), (737, .iload 4), (739, .iconst 3), (740, .iadd), (741, .iaload), (742, .i2l), (743, .ldc2_w 85), (746, .land), (747, .lor), (748, .invokevirtual 91), (751, .pop), (752, .goto 849), (755, .aload_n 1), (756, .invokevirtual 92), (759, .pop), (760, .aload_n 2), (761, .invokevirtual 95), (764, .pop), (765, .goto 836), (768, .aload_n 1), (769, .aload_n 0), (770, .iload 4), (772, .iconst 1)]
set_option maxRecDepth 100000 in
theorem lwA_8 : lwL_8.all (fun e => xdec cL_law e && xtg e) = true := dW_top (by decide +kernel)
theorem dW_714 : decode cL_law 714 = .ok (.lor, 1) := lwq_ok (e := (714, .lor)) (List.all_eq_true.mp lwA_8 _ (List.mem_of_getElem? (i := 0) rfl)) rfl
theorem dW_715 : decode cL_law 715 = .ok (.invokevirtual 87, 3) := lwq_ok (e := (715, .invokevirtual 87)) (List.all_eq_true.mp lwA_8 _ (List.mem_of_getElem? (i := 1) rfl)) rfl
theorem dW_718 : decode cL_law 718 = .ok (.pop, 1) := lwq_ok (e := (718, .pop)) (List.all_eq_true.mp lwA_8 _ (List.mem_of_getElem? (i := 2) rfl)) rfl
theorem dW_719 : decode cL_law 719 = .ok (.aload_n 2, 1) := lwq_ok (e := (719, .aload_n 2)) (List.all_eq_true.mp lwA_8 _ (List.mem_of_getElem? (i := 3) rfl)) rfl
theorem dW_720 : decode cL_law 720 = .ok (.aload_n 0, 1) := lwq_ok (e := (720, .aload_n 0)) (List.all_eq_true.mp lwA_8 _ (List.mem_of_getElem? (i := 4) rfl)) rfl
theorem dW_721 : decode cL_law 721 = .ok (.iload 4, 2) := lwq_ok (e := (721, .iload 4)) (List.all_eq_true.mp lwA_8 _ (List.mem_of_getElem? (i := 5) rfl)) rfl
theorem dW_723 : decode cL_law 723 = .ok (.iconst 1, 1) := lwq_ok (e := (723, .iconst 1)) (List.all_eq_true.mp lwA_8 _ (List.mem_of_getElem? (i := 6) rfl)) rfl
theorem dW_724 : decode cL_law 724 = .ok (.iadd, 1) := lwq_ok (e := (724, .iadd)) (List.all_eq_true.mp lwA_8 _ (List.mem_of_getElem? (i := 7) rfl)) rfl
theorem dW_725 : decode cL_law 725 = .ok (.iaload, 1) := lwq_ok (e := (725, .iaload)) (List.all_eq_true.mp lwA_8 _ (List.mem_of_getElem? (i := 8) rfl)) rfl
theorem dW_726 : decode cL_law 726 = .ok (.aload_n 0, 1) := lwq_ok (e := (726, .aload_n 0)) (List.all_eq_true.mp lwA_8 _ (List.mem_of_getElem? (i := 9) rfl)) rfl
theorem dW_727 : decode cL_law 727 = .ok (.iload 4, 2) := lwq_ok (e := (727, .iload 4)) (List.all_eq_true.mp lwA_8 _ (List.mem_of_getElem? (i := 10) rfl)) rfl
theorem dW_729 : decode cL_law 729 = .ok (.iconst 2, 1) := lwq_ok (e := (729, .iconst 2)) (List.all_eq_true.mp lwA_8 _ (List.mem_of_getElem? (i := 11) rfl)) rfl
theorem dW_730 : decode cL_law 730 = .ok (.iadd, 1) := lwq_ok (e := (730, .iadd)) (List.all_eq_true.mp lwA_8 _ (List.mem_of_getElem? (i := 12) rfl)) rfl
theorem dW_731 : decode cL_law 731 = .ok (.iaload, 1) := lwq_ok (e := (731, .iaload)) (List.all_eq_true.mp lwA_8 _ (List.mem_of_getElem? (i := 13) rfl)) rfl
theorem dW_732 : decode cL_law 732 = .ok (.i2l, 1) := lwq_ok (e := (732, .i2l)) (List.all_eq_true.mp lwA_8 _ (List.mem_of_getElem? (i := 14) rfl)) rfl
theorem dW_733 : decode cL_law 733 = .ok (.bipush 32, 2) := lwq_ok (e := (733, .bipush 32)) (List.all_eq_true.mp lwA_8 _ (List.mem_of_getElem? (i := 15) rfl)) rfl
theorem dW_735 : decode cL_law 735 = .ok (.lshl, 1) := lwq_ok (e := (735, .lshl)) (List.all_eq_true.mp lwA_8 _ (List.mem_of_getElem? (i := 16) rfl)) rfl
theorem dW_736 : decode cL_law 736 = .ok (.aload_n 0, 1) := lwq_ok (e := (736, .aload_n 0)) (List.all_eq_true.mp lwA_8 _ (List.mem_of_getElem? (i := 17) rfl)) rfl
theorem dW_737 : decode cL_law 737 = .ok (.iload 4, 2) := lwq_ok (e := (737, .iload 4)) (List.all_eq_true.mp lwA_8 _ (List.mem_of_getElem? (i := 18) rfl)) rfl
theorem dW_739 : decode cL_law 739 = .ok (.iconst 3, 1) := lwq_ok (e := (739, .iconst 3)) (List.all_eq_true.mp lwA_8 _ (List.mem_of_getElem? (i := 19) rfl)) rfl
theorem dW_740 : decode cL_law 740 = .ok (.iadd, 1) := lwq_ok (e := (740, .iadd)) (List.all_eq_true.mp lwA_8 _ (List.mem_of_getElem? (i := 20) rfl)) rfl
theorem dW_741 : decode cL_law 741 = .ok (.iaload, 1) := lwq_ok (e := (741, .iaload)) (List.all_eq_true.mp lwA_8 _ (List.mem_of_getElem? (i := 21) rfl)) rfl
theorem dW_742 : decode cL_law 742 = .ok (.i2l, 1) := lwq_ok (e := (742, .i2l)) (List.all_eq_true.mp lwA_8 _ (List.mem_of_getElem? (i := 22) rfl)) rfl
theorem dW_743 : decode cL_law 743 = .ok (.ldc2_w 85, 3) := lwq_ok (e := (743, .ldc2_w 85)) (List.all_eq_true.mp lwA_8 _ (List.mem_of_getElem? (i := 23) rfl)) rfl
theorem dW_746 : decode cL_law 746 = .ok (.land, 1) := lwq_ok (e := (746, .land)) (List.all_eq_true.mp lwA_8 _ (List.mem_of_getElem? (i := 24) rfl)) rfl
theorem dW_747 : decode cL_law 747 = .ok (.lor, 1) := lwq_ok (e := (747, .lor)) (List.all_eq_true.mp lwA_8 _ (List.mem_of_getElem? (i := 25) rfl)) rfl
theorem dW_748 : decode cL_law 748 = .ok (.invokevirtual 91, 3) := lwq_ok (e := (748, .invokevirtual 91)) (List.all_eq_true.mp lwA_8 _ (List.mem_of_getElem? (i := 26) rfl)) rfl
theorem dW_751 : decode cL_law 751 = .ok (.pop, 1) := lwq_ok (e := (751, .pop)) (List.all_eq_true.mp lwA_8 _ (List.mem_of_getElem? (i := 27) rfl)) rfl
theorem dW_752 : decode cL_law 752 = .ok (.goto 849, 3) := lwq_ok (e := (752, .goto 849)) (List.all_eq_true.mp lwA_8 _ (List.mem_of_getElem? (i := 28) rfl)) rfl
theorem dW_755 : decode cL_law 755 = .ok (.aload_n 1, 1) := lwq_ok (e := (755, .aload_n 1)) (List.all_eq_true.mp lwA_8 _ (List.mem_of_getElem? (i := 29) rfl)) rfl
theorem dW_756 : decode cL_law 756 = .ok (.invokevirtual 92, 3) := lwq_ok (e := (756, .invokevirtual 92)) (List.all_eq_true.mp lwA_8 _ (List.mem_of_getElem? (i := 30) rfl)) rfl
theorem dW_759 : decode cL_law 759 = .ok (.pop, 1) := lwq_ok (e := (759, .pop)) (List.all_eq_true.mp lwA_8 _ (List.mem_of_getElem? (i := 31) rfl)) rfl
theorem dW_760 : decode cL_law 760 = .ok (.aload_n 2, 1) := lwq_ok (e := (760, .aload_n 2)) (List.all_eq_true.mp lwA_8 _ (List.mem_of_getElem? (i := 32) rfl)) rfl
theorem dW_761 : decode cL_law 761 = .ok (.invokevirtual 95, 3) := lwq_ok (e := (761, .invokevirtual 95)) (List.all_eq_true.mp lwA_8 _ (List.mem_of_getElem? (i := 33) rfl)) rfl
theorem dW_764 : decode cL_law 764 = .ok (.pop, 1) := lwq_ok (e := (764, .pop)) (List.all_eq_true.mp lwA_8 _ (List.mem_of_getElem? (i := 34) rfl)) rfl
theorem dW_765 : decode cL_law 765 = .ok (.goto 836, 3) := lwq_ok (e := (765, .goto 836)) (List.all_eq_true.mp lwA_8 _ (List.mem_of_getElem? (i := 35) rfl)) rfl
theorem dW_768 : decode cL_law 768 = .ok (.aload_n 1, 1) := lwq_ok (e := (768, .aload_n 1)) (List.all_eq_true.mp lwA_8 _ (List.mem_of_getElem? (i := 36) rfl)) rfl
theorem dW_769 : decode cL_law 769 = .ok (.aload_n 0, 1) := lwq_ok (e := (769, .aload_n 0)) (List.all_eq_true.mp lwA_8 _ (List.mem_of_getElem? (i := 37) rfl)) rfl
theorem dW_770 : decode cL_law 770 = .ok (.iload 4, 2) := lwq_ok (e := (770, .iload 4)) (List.all_eq_true.mp lwA_8 _ (List.mem_of_getElem? (i := 38) rfl)) rfl
theorem dW_772 : decode cL_law 772 = .ok (.iconst 1, 1) := lwq_ok (e := (772, .iconst 1)) (List.all_eq_true.mp lwA_8 _ (List.mem_of_getElem? (i := 39) rfl)) rfl
def lwL_9 : List (Nat × Instr) := [(773, .iadd), (774, .iaload), (775, .aload_n 0), (776, .iload 4), (778, .iconst 2), (779, .iadd), (780, .iaload), (781, .invokevirtual 96), (784, .pop), (785, .aload_n 2), (786, .aload_n 0), (787, .iload 4), (789, .iconst 1), (790, .iadd), (791, .iaload), (792, .aload_n 0), (793, .iload 4), (795, .iconst 2), (796, .iadd), (797, .iaload), (798, .invokevirtual 99), (801, .pop), (802, .goto 799), (805, .aload_n 1), (806, .aload_n 0), (807, .iload 4), (809, .iconst 1), (810, .iadd), (811, .iaload), (812, .aload_n 0), (813, .iload 4), (815, .iconst 2), (816, .iadd), (817, .iaload), (818, .invokevirtual 100), (821, .pop), (822, .aload_n 2), (823, .aload_n 0), (824, .iload 4), (826, .iconst 1)]
set_option maxRecDepth 100000 in
theorem lwA_9 : lwL_9.all (fun e => xdec cL_law e && xtg e) = true := dW_top (by decide +kernel)
theorem dW_773 : decode cL_law 773 = .ok (.iadd, 1) := lwq_ok (e := (773, .iadd)) (List.all_eq_true.mp lwA_9 _ (List.mem_of_getElem? (i := 0) rfl)) rfl
theorem dW_774 : decode cL_law 774 = .ok (.iaload, 1) := lwq_ok (e := (774, .iaload)) (List.all_eq_true.mp lwA_9 _ (List.mem_of_getElem? (i := 1) rfl)) rfl
theorem dW_775 : decode cL_law 775 = .ok (.aload_n 0, 1) := lwq_ok (e := (775, .aload_n 0)) (List.all_eq_true.mp lwA_9 _ (List.mem_of_getElem? (i := 2) rfl)) rfl
theorem dW_776 : decode cL_law 776 = .ok (.iload 4, 2) := lwq_ok (e := (776, .iload 4)) (List.all_eq_true.mp lwA_9 _ (List.mem_of_getElem? (i := 3) rfl)) rfl
theorem dW_778 : decode cL_law 778 = .ok (.iconst 2, 1) := lwq_ok (e := (778, .iconst 2)) (List.all_eq_true.mp lwA_9 _ (List.mem_of_getElem? (i := 4) rfl)) rfl
theorem dW_779 : decode cL_law 779 = .ok (.iadd, 1) := lwq_ok (e := (779, .iadd)) (List.all_eq_true.mp lwA_9 _ (List.mem_of_getElem? (i := 5) rfl)) rfl
theorem dW_780 : decode cL_law 780 = .ok (.iaload, 1) := lwq_ok (e := (780, .iaload)) (List.all_eq_true.mp lwA_9 _ (List.mem_of_getElem? (i := 6) rfl)) rfl
theorem dW_781 : decode cL_law 781 = .ok (.invokevirtual 96, 3) := lwq_ok (e := (781, .invokevirtual 96)) (List.all_eq_true.mp lwA_9 _ (List.mem_of_getElem? (i := 7) rfl)) rfl
theorem dW_784 : decode cL_law 784 = .ok (.pop, 1) := lwq_ok (e := (784, .pop)) (List.all_eq_true.mp lwA_9 _ (List.mem_of_getElem? (i := 8) rfl)) rfl
theorem dW_785 : decode cL_law 785 = .ok (.aload_n 2, 1) := lwq_ok (e := (785, .aload_n 2)) (List.all_eq_true.mp lwA_9 _ (List.mem_of_getElem? (i := 9) rfl)) rfl
theorem dW_786 : decode cL_law 786 = .ok (.aload_n 0, 1) := lwq_ok (e := (786, .aload_n 0)) (List.all_eq_true.mp lwA_9 _ (List.mem_of_getElem? (i := 10) rfl)) rfl
theorem dW_787 : decode cL_law 787 = .ok (.iload 4, 2) := lwq_ok (e := (787, .iload 4)) (List.all_eq_true.mp lwA_9 _ (List.mem_of_getElem? (i := 11) rfl)) rfl
theorem dW_789 : decode cL_law 789 = .ok (.iconst 1, 1) := lwq_ok (e := (789, .iconst 1)) (List.all_eq_true.mp lwA_9 _ (List.mem_of_getElem? (i := 12) rfl)) rfl
theorem dW_790 : decode cL_law 790 = .ok (.iadd, 1) := lwq_ok (e := (790, .iadd)) (List.all_eq_true.mp lwA_9 _ (List.mem_of_getElem? (i := 13) rfl)) rfl
theorem dW_791 : decode cL_law 791 = .ok (.iaload, 1) := lwq_ok (e := (791, .iaload)) (List.all_eq_true.mp lwA_9 _ (List.mem_of_getElem? (i := 14) rfl)) rfl
theorem dW_792 : decode cL_law 792 = .ok (.aload_n 0, 1) := lwq_ok (e := (792, .aload_n 0)) (List.all_eq_true.mp lwA_9 _ (List.mem_of_getElem? (i := 15) rfl)) rfl
theorem dW_793 : decode cL_law 793 = .ok (.iload 4, 2) := lwq_ok (e := (793, .iload 4)) (List.all_eq_true.mp lwA_9 _ (List.mem_of_getElem? (i := 16) rfl)) rfl
theorem dW_795 : decode cL_law 795 = .ok (.iconst 2, 1) := lwq_ok (e := (795, .iconst 2)) (List.all_eq_true.mp lwA_9 _ (List.mem_of_getElem? (i := 17) rfl)) rfl
theorem dW_796 : decode cL_law 796 = .ok (.iadd, 1) := lwq_ok (e := (796, .iadd)) (List.all_eq_true.mp lwA_9 _ (List.mem_of_getElem? (i := 18) rfl)) rfl
theorem dW_797 : decode cL_law 797 = .ok (.iaload, 1) := lwq_ok (e := (797, .iaload)) (List.all_eq_true.mp lwA_9 _ (List.mem_of_getElem? (i := 19) rfl)) rfl
theorem dW_798 : decode cL_law 798 = .ok (.invokevirtual 99, 3) := lwq_ok (e := (798, .invokevirtual 99)) (List.all_eq_true.mp lwA_9 _ (List.mem_of_getElem? (i := 20) rfl)) rfl
theorem dW_801 : decode cL_law 801 = .ok (.pop, 1) := lwq_ok (e := (801, .pop)) (List.all_eq_true.mp lwA_9 _ (List.mem_of_getElem? (i := 21) rfl)) rfl
theorem dW_802 : decode cL_law 802 = .ok (.goto 799, 3) := lwq_ok (e := (802, .goto 799)) (List.all_eq_true.mp lwA_9 _ (List.mem_of_getElem? (i := 22) rfl)) rfl
theorem dW_805 : decode cL_law 805 = .ok (.aload_n 1, 1) := lwq_ok (e := (805, .aload_n 1)) (List.all_eq_true.mp lwA_9 _ (List.mem_of_getElem? (i := 23) rfl)) rfl
theorem dW_806 : decode cL_law 806 = .ok (.aload_n 0, 1) := lwq_ok (e := (806, .aload_n 0)) (List.all_eq_true.mp lwA_9 _ (List.mem_of_getElem? (i := 24) rfl)) rfl
theorem dW_807 : decode cL_law 807 = .ok (.iload 4, 2) := lwq_ok (e := (807, .iload 4)) (List.all_eq_true.mp lwA_9 _ (List.mem_of_getElem? (i := 25) rfl)) rfl
theorem dW_809 : decode cL_law 809 = .ok (.iconst 1, 1) := lwq_ok (e := (809, .iconst 1)) (List.all_eq_true.mp lwA_9 _ (List.mem_of_getElem? (i := 26) rfl)) rfl
theorem dW_810 : decode cL_law 810 = .ok (.iadd, 1) := lwq_ok (e := (810, .iadd)) (List.all_eq_true.mp lwA_9 _ (List.mem_of_getElem? (i := 27) rfl)) rfl
theorem dW_811 : decode cL_law 811 = .ok (.iaload, 1) := lwq_ok (e := (811, .iaload)) (List.all_eq_true.mp lwA_9 _ (List.mem_of_getElem? (i := 28) rfl)) rfl
theorem dW_812 : decode cL_law 812 = .ok (.aload_n 0, 1) := lwq_ok (e := (812, .aload_n 0)) (List.all_eq_true.mp lwA_9 _ (List.mem_of_getElem? (i := 29) rfl)) rfl
theorem dW_813 : decode cL_law 813 = .ok (.iload 4, 2) := lwq_ok (e := (813, .iload 4)) (List.all_eq_true.mp lwA_9 _ (List.mem_of_getElem? (i := 30) rfl)) rfl
theorem dW_815 : decode cL_law 815 = .ok (.iconst 2, 1) := lwq_ok (e := (815, .iconst 2)) (List.all_eq_true.mp lwA_9 _ (List.mem_of_getElem? (i := 31) rfl)) rfl
theorem dW_816 : decode cL_law 816 = .ok (.iadd, 1) := lwq_ok (e := (816, .iadd)) (List.all_eq_true.mp lwA_9 _ (List.mem_of_getElem? (i := 32) rfl)) rfl
theorem dW_817 : decode cL_law 817 = .ok (.iaload, 1) := lwq_ok (e := (817, .iaload)) (List.all_eq_true.mp lwA_9 _ (List.mem_of_getElem? (i := 33) rfl)) rfl
theorem dW_818 : decode cL_law 818 = .ok (.invokevirtual 100, 3) := lwq_ok (e := (818, .invokevirtual 100)) (List.all_eq_true.mp lwA_9 _ (List.mem_of_getElem? (i := 34) rfl)) rfl
theorem dW_821 : decode cL_law 821 = .ok (.pop, 1) := lwq_ok (e := (821, .pop)) (List.all_eq_true.mp lwA_9 _ (List.mem_of_getElem? (i := 35) rfl)) rfl
theorem dW_822 : decode cL_law 822 = .ok (.aload_n 2, 1) := lwq_ok (e := (822, .aload_n 2)) (List.all_eq_true.mp lwA_9 _ (List.mem_of_getElem? (i := 36) rfl)) rfl
theorem dW_823 : decode cL_law 823 = .ok (.aload_n 0, 1) := lwq_ok (e := (823, .aload_n 0)) (List.all_eq_true.mp lwA_9 _ (List.mem_of_getElem? (i := 37) rfl)) rfl
theorem dW_824 : decode cL_law 824 = .ok (.iload 4, 2) := lwq_ok (e := (824, .iload 4)) (List.all_eq_true.mp lwA_9 _ (List.mem_of_getElem? (i := 38) rfl)) rfl
theorem dW_826 : decode cL_law 826 = .ok (.iconst 1, 1) := lwq_ok (e := (826, .iconst 1)) (List.all_eq_true.mp lwA_9 _ (List.mem_of_getElem? (i := 39) rfl)) rfl
def lwL_10 : List (Nat × Instr) := [(827, .iadd), (828, .iaload), (829, .aload_n 0), (830, .iload 4), (832, .iconst 2), (833, .iadd), (834, .iaload), (835, .invokevirtual 103), (838, .pop), (839, .goto 762), (842, .aload_n 1), (843, .aload_n 0), (844, .iload 4), (846, .iconst 1), (847, .iadd), (848, .iaload), (849, .aload_n 0), (850, .iload 4), (852, .iconst 2), (853, .iadd), (854, .iaload), (855, .invokevirtual 104), (858, .pop), (859, .aload_n 2), (860, .aload_n 0), (861, .iload 4), (863, .iconst 1), (864, .iadd), (865, .iaload), (866, .aload_n 0), (867, .iload 4), (869, .iconst 2), (870, .iadd), (871, .iaload), (872, .invokevirtual 107), (875, .pop), (876, .goto 725), (879, .aload_n 1), (880, .aload_n 0), (881, .iload 4)]
set_option maxRecDepth 100000 in
theorem lwA_10 : lwL_10.all (fun e => xdec cL_law e && xtg e) = true := dW_top (by decide +kernel)
theorem dW_827 : decode cL_law 827 = .ok (.iadd, 1) := lwq_ok (e := (827, .iadd)) (List.all_eq_true.mp lwA_10 _ (List.mem_of_getElem? (i := 0) rfl)) rfl
theorem dW_828 : decode cL_law 828 = .ok (.iaload, 1) := lwq_ok (e := (828, .iaload)) (List.all_eq_true.mp lwA_10 _ (List.mem_of_getElem? (i := 1) rfl)) rfl
theorem dW_829 : decode cL_law 829 = .ok (.aload_n 0, 1) := lwq_ok (e := (829, .aload_n 0)) (List.all_eq_true.mp lwA_10 _ (List.mem_of_getElem? (i := 2) rfl)) rfl
theorem dW_830 : decode cL_law 830 = .ok (.iload 4, 2) := lwq_ok (e := (830, .iload 4)) (List.all_eq_true.mp lwA_10 _ (List.mem_of_getElem? (i := 3) rfl)) rfl
theorem dW_832 : decode cL_law 832 = .ok (.iconst 2, 1) := lwq_ok (e := (832, .iconst 2)) (List.all_eq_true.mp lwA_10 _ (List.mem_of_getElem? (i := 4) rfl)) rfl
theorem dW_833 : decode cL_law 833 = .ok (.iadd, 1) := lwq_ok (e := (833, .iadd)) (List.all_eq_true.mp lwA_10 _ (List.mem_of_getElem? (i := 5) rfl)) rfl
theorem dW_834 : decode cL_law 834 = .ok (.iaload, 1) := lwq_ok (e := (834, .iaload)) (List.all_eq_true.mp lwA_10 _ (List.mem_of_getElem? (i := 6) rfl)) rfl
theorem dW_835 : decode cL_law 835 = .ok (.invokevirtual 103, 3) := lwq_ok (e := (835, .invokevirtual 103)) (List.all_eq_true.mp lwA_10 _ (List.mem_of_getElem? (i := 7) rfl)) rfl
theorem dW_838 : decode cL_law 838 = .ok (.pop, 1) := lwq_ok (e := (838, .pop)) (List.all_eq_true.mp lwA_10 _ (List.mem_of_getElem? (i := 8) rfl)) rfl
theorem dW_839 : decode cL_law 839 = .ok (.goto 762, 3) := lwq_ok (e := (839, .goto 762)) (List.all_eq_true.mp lwA_10 _ (List.mem_of_getElem? (i := 9) rfl)) rfl
theorem dW_842 : decode cL_law 842 = .ok (.aload_n 1, 1) := lwq_ok (e := (842, .aload_n 1)) (List.all_eq_true.mp lwA_10 _ (List.mem_of_getElem? (i := 10) rfl)) rfl
theorem dW_843 : decode cL_law 843 = .ok (.aload_n 0, 1) := lwq_ok (e := (843, .aload_n 0)) (List.all_eq_true.mp lwA_10 _ (List.mem_of_getElem? (i := 11) rfl)) rfl
theorem dW_844 : decode cL_law 844 = .ok (.iload 4, 2) := lwq_ok (e := (844, .iload 4)) (List.all_eq_true.mp lwA_10 _ (List.mem_of_getElem? (i := 12) rfl)) rfl
theorem dW_846 : decode cL_law 846 = .ok (.iconst 1, 1) := lwq_ok (e := (846, .iconst 1)) (List.all_eq_true.mp lwA_10 _ (List.mem_of_getElem? (i := 13) rfl)) rfl
theorem dW_847 : decode cL_law 847 = .ok (.iadd, 1) := lwq_ok (e := (847, .iadd)) (List.all_eq_true.mp lwA_10 _ (List.mem_of_getElem? (i := 14) rfl)) rfl
theorem dW_848 : decode cL_law 848 = .ok (.iaload, 1) := lwq_ok (e := (848, .iaload)) (List.all_eq_true.mp lwA_10 _ (List.mem_of_getElem? (i := 15) rfl)) rfl
theorem dW_849 : decode cL_law 849 = .ok (.aload_n 0, 1) := lwq_ok (e := (849, .aload_n 0)) (List.all_eq_true.mp lwA_10 _ (List.mem_of_getElem? (i := 16) rfl)) rfl
theorem dW_850 : decode cL_law 850 = .ok (.iload 4, 2) := lwq_ok (e := (850, .iload 4)) (List.all_eq_true.mp lwA_10 _ (List.mem_of_getElem? (i := 17) rfl)) rfl
theorem dW_852 : decode cL_law 852 = .ok (.iconst 2, 1) := lwq_ok (e := (852, .iconst 2)) (List.all_eq_true.mp lwA_10 _ (List.mem_of_getElem? (i := 18) rfl)) rfl
theorem dW_853 : decode cL_law 853 = .ok (.iadd, 1) := lwq_ok (e := (853, .iadd)) (List.all_eq_true.mp lwA_10 _ (List.mem_of_getElem? (i := 19) rfl)) rfl
theorem dW_854 : decode cL_law 854 = .ok (.iaload, 1) := lwq_ok (e := (854, .iaload)) (List.all_eq_true.mp lwA_10 _ (List.mem_of_getElem? (i := 20) rfl)) rfl
theorem dW_855 : decode cL_law 855 = .ok (.invokevirtual 104, 3) := lwq_ok (e := (855, .invokevirtual 104)) (List.all_eq_true.mp lwA_10 _ (List.mem_of_getElem? (i := 21) rfl)) rfl
theorem dW_858 : decode cL_law 858 = .ok (.pop, 1) := lwq_ok (e := (858, .pop)) (List.all_eq_true.mp lwA_10 _ (List.mem_of_getElem? (i := 22) rfl)) rfl
theorem dW_859 : decode cL_law 859 = .ok (.aload_n 2, 1) := lwq_ok (e := (859, .aload_n 2)) (List.all_eq_true.mp lwA_10 _ (List.mem_of_getElem? (i := 23) rfl)) rfl
theorem dW_860 : decode cL_law 860 = .ok (.aload_n 0, 1) := lwq_ok (e := (860, .aload_n 0)) (List.all_eq_true.mp lwA_10 _ (List.mem_of_getElem? (i := 24) rfl)) rfl
theorem dW_861 : decode cL_law 861 = .ok (.iload 4, 2) := lwq_ok (e := (861, .iload 4)) (List.all_eq_true.mp lwA_10 _ (List.mem_of_getElem? (i := 25) rfl)) rfl
theorem dW_863 : decode cL_law 863 = .ok (.iconst 1, 1) := lwq_ok (e := (863, .iconst 1)) (List.all_eq_true.mp lwA_10 _ (List.mem_of_getElem? (i := 26) rfl)) rfl
theorem dW_864 : decode cL_law 864 = .ok (.iadd, 1) := lwq_ok (e := (864, .iadd)) (List.all_eq_true.mp lwA_10 _ (List.mem_of_getElem? (i := 27) rfl)) rfl
theorem dW_865 : decode cL_law 865 = .ok (.iaload, 1) := lwq_ok (e := (865, .iaload)) (List.all_eq_true.mp lwA_10 _ (List.mem_of_getElem? (i := 28) rfl)) rfl
theorem dW_866 : decode cL_law 866 = .ok (.aload_n 0, 1) := lwq_ok (e := (866, .aload_n 0)) (List.all_eq_true.mp lwA_10 _ (List.mem_of_getElem? (i := 29) rfl)) rfl
theorem dW_867 : decode cL_law 867 = .ok (.iload 4, 2) := lwq_ok (e := (867, .iload 4)) (List.all_eq_true.mp lwA_10 _ (List.mem_of_getElem? (i := 30) rfl)) rfl
theorem dW_869 : decode cL_law 869 = .ok (.iconst 2, 1) := lwq_ok (e := (869, .iconst 2)) (List.all_eq_true.mp lwA_10 _ (List.mem_of_getElem? (i := 31) rfl)) rfl
theorem dW_870 : decode cL_law 870 = .ok (.iadd, 1) := lwq_ok (e := (870, .iadd)) (List.all_eq_true.mp lwA_10 _ (List.mem_of_getElem? (i := 32) rfl)) rfl
theorem dW_871 : decode cL_law 871 = .ok (.iaload, 1) := lwq_ok (e := (871, .iaload)) (List.all_eq_true.mp lwA_10 _ (List.mem_of_getElem? (i := 33) rfl)) rfl
theorem dW_872 : decode cL_law 872 = .ok (.invokevirtual 107, 3) := lwq_ok (e := (872, .invokevirtual 107)) (List.all_eq_true.mp lwA_10 _ (List.mem_of_getElem? (i := 34) rfl)) rfl
theorem dW_875 : decode cL_law 875 = .ok (.pop, 1) := lwq_ok (e := (875, .pop)) (List.all_eq_true.mp lwA_10 _ (List.mem_of_getElem? (i := 35) rfl)) rfl
theorem dW_876 : decode cL_law 876 = .ok (.goto 725, 3) := lwq_ok (e := (876, .goto 725)) (List.all_eq_true.mp lwA_10 _ (List.mem_of_getElem? (i := 36) rfl)) rfl
theorem dW_879 : decode cL_law 879 = .ok (.aload_n 1, 1) := lwq_ok (e := (879, .aload_n 1)) (List.all_eq_true.mp lwA_10 _ (List.mem_of_getElem? (i := 37) rfl)) rfl
theorem dW_880 : decode cL_law 880 = .ok (.aload_n 0, 1) := lwq_ok (e := (880, .aload_n 0)) (List.all_eq_true.mp lwA_10 _ (List.mem_of_getElem? (i := 38) rfl)) rfl
theorem dW_881 : decode cL_law 881 = .ok (.iload 4, 2) := lwq_ok (e := (881, .iload 4)) (List.all_eq_true.mp lwA_10 _ (List.mem_of_getElem? (i := 39) rfl)) rfl
def lwL_11 : List (Nat × Instr) := [(883, .iconst 1), (884, .iadd), (885, .iaload), (886, .aload_n 0), (887, .iload 4), (889, .iconst 2), (890, .iadd), (891, .iaload), (892, .invokevirtual 108), (895, .pop), (896, .aload_n 2), (897, .aload_n 0), (898, .iload 4), (900, .iconst 1), (901, .iadd), (902, .iaload), (903, .aload_n 0), (904, .iload 4), (906, .iconst 2), (907, .iadd), (908, .iaload), (909, .invokevirtual 111), (912, .pop), (913, .goto 688), (916, .aload_n 1), (917, .aload_n 0), (918, .iload 4), (920, .iconst 1), (921, .iadd), (922, .iaload), (923, .aload_n 0), (924, .iload 4), (926, .iconst 2), (927, .iadd), (928, .iaload), (929, .invokevirtual 112), (932, .pop), (933, .aload_n 2), (934, .aload_n 0), (935, .iload 4)]
set_option maxRecDepth 100000 in
theorem lwA_11 : lwL_11.all (fun e => xdec cL_law e && xtg e) = true := dW_top (by decide +kernel)
theorem dW_883 : decode cL_law 883 = .ok (.iconst 1, 1) := lwq_ok (e := (883, .iconst 1)) (List.all_eq_true.mp lwA_11 _ (List.mem_of_getElem? (i := 0) rfl)) rfl
theorem dW_884 : decode cL_law 884 = .ok (.iadd, 1) := lwq_ok (e := (884, .iadd)) (List.all_eq_true.mp lwA_11 _ (List.mem_of_getElem? (i := 1) rfl)) rfl
theorem dW_885 : decode cL_law 885 = .ok (.iaload, 1) := lwq_ok (e := (885, .iaload)) (List.all_eq_true.mp lwA_11 _ (List.mem_of_getElem? (i := 2) rfl)) rfl
theorem dW_886 : decode cL_law 886 = .ok (.aload_n 0, 1) := lwq_ok (e := (886, .aload_n 0)) (List.all_eq_true.mp lwA_11 _ (List.mem_of_getElem? (i := 3) rfl)) rfl
theorem dW_887 : decode cL_law 887 = .ok (.iload 4, 2) := lwq_ok (e := (887, .iload 4)) (List.all_eq_true.mp lwA_11 _ (List.mem_of_getElem? (i := 4) rfl)) rfl
theorem dW_889 : decode cL_law 889 = .ok (.iconst 2, 1) := lwq_ok (e := (889, .iconst 2)) (List.all_eq_true.mp lwA_11 _ (List.mem_of_getElem? (i := 5) rfl)) rfl
theorem dW_890 : decode cL_law 890 = .ok (.iadd, 1) := lwq_ok (e := (890, .iadd)) (List.all_eq_true.mp lwA_11 _ (List.mem_of_getElem? (i := 6) rfl)) rfl
theorem dW_891 : decode cL_law 891 = .ok (.iaload, 1) := lwq_ok (e := (891, .iaload)) (List.all_eq_true.mp lwA_11 _ (List.mem_of_getElem? (i := 7) rfl)) rfl
theorem dW_892 : decode cL_law 892 = .ok (.invokevirtual 108, 3) := lwq_ok (e := (892, .invokevirtual 108)) (List.all_eq_true.mp lwA_11 _ (List.mem_of_getElem? (i := 8) rfl)) rfl
theorem dW_895 : decode cL_law 895 = .ok (.pop, 1) := lwq_ok (e := (895, .pop)) (List.all_eq_true.mp lwA_11 _ (List.mem_of_getElem? (i := 9) rfl)) rfl
theorem dW_896 : decode cL_law 896 = .ok (.aload_n 2, 1) := lwq_ok (e := (896, .aload_n 2)) (List.all_eq_true.mp lwA_11 _ (List.mem_of_getElem? (i := 10) rfl)) rfl
theorem dW_897 : decode cL_law 897 = .ok (.aload_n 0, 1) := lwq_ok (e := (897, .aload_n 0)) (List.all_eq_true.mp lwA_11 _ (List.mem_of_getElem? (i := 11) rfl)) rfl
theorem dW_898 : decode cL_law 898 = .ok (.iload 4, 2) := lwq_ok (e := (898, .iload 4)) (List.all_eq_true.mp lwA_11 _ (List.mem_of_getElem? (i := 12) rfl)) rfl
theorem dW_900 : decode cL_law 900 = .ok (.iconst 1, 1) := lwq_ok (e := (900, .iconst 1)) (List.all_eq_true.mp lwA_11 _ (List.mem_of_getElem? (i := 13) rfl)) rfl
theorem dW_901 : decode cL_law 901 = .ok (.iadd, 1) := lwq_ok (e := (901, .iadd)) (List.all_eq_true.mp lwA_11 _ (List.mem_of_getElem? (i := 14) rfl)) rfl
theorem dW_902 : decode cL_law 902 = .ok (.iaload, 1) := lwq_ok (e := (902, .iaload)) (List.all_eq_true.mp lwA_11 _ (List.mem_of_getElem? (i := 15) rfl)) rfl
theorem dW_903 : decode cL_law 903 = .ok (.aload_n 0, 1) := lwq_ok (e := (903, .aload_n 0)) (List.all_eq_true.mp lwA_11 _ (List.mem_of_getElem? (i := 16) rfl)) rfl
theorem dW_904 : decode cL_law 904 = .ok (.iload 4, 2) := lwq_ok (e := (904, .iload 4)) (List.all_eq_true.mp lwA_11 _ (List.mem_of_getElem? (i := 17) rfl)) rfl
theorem dW_906 : decode cL_law 906 = .ok (.iconst 2, 1) := lwq_ok (e := (906, .iconst 2)) (List.all_eq_true.mp lwA_11 _ (List.mem_of_getElem? (i := 18) rfl)) rfl
theorem dW_907 : decode cL_law 907 = .ok (.iadd, 1) := lwq_ok (e := (907, .iadd)) (List.all_eq_true.mp lwA_11 _ (List.mem_of_getElem? (i := 19) rfl)) rfl
theorem dW_908 : decode cL_law 908 = .ok (.iaload, 1) := lwq_ok (e := (908, .iaload)) (List.all_eq_true.mp lwA_11 _ (List.mem_of_getElem? (i := 20) rfl)) rfl
theorem dW_909 : decode cL_law 909 = .ok (.invokevirtual 111, 3) := lwq_ok (e := (909, .invokevirtual 111)) (List.all_eq_true.mp lwA_11 _ (List.mem_of_getElem? (i := 21) rfl)) rfl
theorem dW_912 : decode cL_law 912 = .ok (.pop, 1) := lwq_ok (e := (912, .pop)) (List.all_eq_true.mp lwA_11 _ (List.mem_of_getElem? (i := 22) rfl)) rfl
theorem dW_913 : decode cL_law 913 = .ok (.goto 688, 3) := lwq_ok (e := (913, .goto 688)) (List.all_eq_true.mp lwA_11 _ (List.mem_of_getElem? (i := 23) rfl)) rfl
theorem dW_916 : decode cL_law 916 = .ok (.aload_n 1, 1) := lwq_ok (e := (916, .aload_n 1)) (List.all_eq_true.mp lwA_11 _ (List.mem_of_getElem? (i := 24) rfl)) rfl
theorem dW_917 : decode cL_law 917 = .ok (.aload_n 0, 1) := lwq_ok (e := (917, .aload_n 0)) (List.all_eq_true.mp lwA_11 _ (List.mem_of_getElem? (i := 25) rfl)) rfl
theorem dW_918 : decode cL_law 918 = .ok (.iload 4, 2) := lwq_ok (e := (918, .iload 4)) (List.all_eq_true.mp lwA_11 _ (List.mem_of_getElem? (i := 26) rfl)) rfl
theorem dW_920 : decode cL_law 920 = .ok (.iconst 1, 1) := lwq_ok (e := (920, .iconst 1)) (List.all_eq_true.mp lwA_11 _ (List.mem_of_getElem? (i := 27) rfl)) rfl
theorem dW_921 : decode cL_law 921 = .ok (.iadd, 1) := lwq_ok (e := (921, .iadd)) (List.all_eq_true.mp lwA_11 _ (List.mem_of_getElem? (i := 28) rfl)) rfl
theorem dW_922 : decode cL_law 922 = .ok (.iaload, 1) := lwq_ok (e := (922, .iaload)) (List.all_eq_true.mp lwA_11 _ (List.mem_of_getElem? (i := 29) rfl)) rfl
theorem dW_923 : decode cL_law 923 = .ok (.aload_n 0, 1) := lwq_ok (e := (923, .aload_n 0)) (List.all_eq_true.mp lwA_11 _ (List.mem_of_getElem? (i := 30) rfl)) rfl
theorem dW_924 : decode cL_law 924 = .ok (.iload 4, 2) := lwq_ok (e := (924, .iload 4)) (List.all_eq_true.mp lwA_11 _ (List.mem_of_getElem? (i := 31) rfl)) rfl
theorem dW_926 : decode cL_law 926 = .ok (.iconst 2, 1) := lwq_ok (e := (926, .iconst 2)) (List.all_eq_true.mp lwA_11 _ (List.mem_of_getElem? (i := 32) rfl)) rfl
theorem dW_927 : decode cL_law 927 = .ok (.iadd, 1) := lwq_ok (e := (927, .iadd)) (List.all_eq_true.mp lwA_11 _ (List.mem_of_getElem? (i := 33) rfl)) rfl
theorem dW_928 : decode cL_law 928 = .ok (.iaload, 1) := lwq_ok (e := (928, .iaload)) (List.all_eq_true.mp lwA_11 _ (List.mem_of_getElem? (i := 34) rfl)) rfl
theorem dW_929 : decode cL_law 929 = .ok (.invokevirtual 112, 3) := lwq_ok (e := (929, .invokevirtual 112)) (List.all_eq_true.mp lwA_11 _ (List.mem_of_getElem? (i := 35) rfl)) rfl
theorem dW_932 : decode cL_law 932 = .ok (.pop, 1) := lwq_ok (e := (932, .pop)) (List.all_eq_true.mp lwA_11 _ (List.mem_of_getElem? (i := 36) rfl)) rfl
theorem dW_933 : decode cL_law 933 = .ok (.aload_n 2, 1) := lwq_ok (e := (933, .aload_n 2)) (List.all_eq_true.mp lwA_11 _ (List.mem_of_getElem? (i := 37) rfl)) rfl
theorem dW_934 : decode cL_law 934 = .ok (.aload_n 0, 1) := lwq_ok (e := (934, .aload_n 0)) (List.all_eq_true.mp lwA_11 _ (List.mem_of_getElem? (i := 38) rfl)) rfl
theorem dW_935 : decode cL_law 935 = .ok (.iload 4, 2) := lwq_ok (e := (935, .iload 4)) (List.all_eq_true.mp lwA_11 _ (List.mem_of_getElem? (i := 39) rfl)) rfl
def lwL_12 : List (Nat × Instr) := [(937, .iconst 1), (938, .iadd), (939, .iaload), (940, .aload_n 0), (941, .iload 4), (943, .iconst 2), (944, .iadd), (945, .iaload), (946, .invokevirtual 115), (949, .pop), (950, .goto 651), (953, .aload_n 1), (954, .aload_n 0), (955, .iload 4), (957, .iconst 1), (958, .iadd), (959, .iaload), (960, .aload_n 0), (961, .iload 4), (963, .iconst 2), (964, .iadd), (965, .iaload), (966, .invokevirtual 116), (969, .pop), (970, .aload_n 2), (971, .aload_n 0), (972, .iload 4), (974, .iconst 1), (975, .iadd), (976, .iaload), (977, .aload_n 0), (978, .iload 4), (980, .iconst 2), (981, .iadd), (982, .iaload), (983, .invokevirtual 119), (986, .pop), (987, .goto 614), (990, .aload_n 1), (991, .aload_n 0)]
set_option maxRecDepth 100000 in
theorem lwA_12 : lwL_12.all (fun e => xdec cL_law e && xtg e) = true := dW_top (by decide +kernel)
theorem dW_937 : decode cL_law 937 = .ok (.iconst 1, 1) := lwq_ok (e := (937, .iconst 1)) (List.all_eq_true.mp lwA_12 _ (List.mem_of_getElem? (i := 0) rfl)) rfl
theorem dW_938 : decode cL_law 938 = .ok (.iadd, 1) := lwq_ok (e := (938, .iadd)) (List.all_eq_true.mp lwA_12 _ (List.mem_of_getElem? (i := 1) rfl)) rfl
theorem dW_939 : decode cL_law 939 = .ok (.iaload, 1) := lwq_ok (e := (939, .iaload)) (List.all_eq_true.mp lwA_12 _ (List.mem_of_getElem? (i := 2) rfl)) rfl
theorem dW_940 : decode cL_law 940 = .ok (.aload_n 0, 1) := lwq_ok (e := (940, .aload_n 0)) (List.all_eq_true.mp lwA_12 _ (List.mem_of_getElem? (i := 3) rfl)) rfl
theorem dW_941 : decode cL_law 941 = .ok (.iload 4, 2) := lwq_ok (e := (941, .iload 4)) (List.all_eq_true.mp lwA_12 _ (List.mem_of_getElem? (i := 4) rfl)) rfl
theorem dW_943 : decode cL_law 943 = .ok (.iconst 2, 1) := lwq_ok (e := (943, .iconst 2)) (List.all_eq_true.mp lwA_12 _ (List.mem_of_getElem? (i := 5) rfl)) rfl
theorem dW_944 : decode cL_law 944 = .ok (.iadd, 1) := lwq_ok (e := (944, .iadd)) (List.all_eq_true.mp lwA_12 _ (List.mem_of_getElem? (i := 6) rfl)) rfl
theorem dW_945 : decode cL_law 945 = .ok (.iaload, 1) := lwq_ok (e := (945, .iaload)) (List.all_eq_true.mp lwA_12 _ (List.mem_of_getElem? (i := 7) rfl)) rfl
theorem dW_946 : decode cL_law 946 = .ok (.invokevirtual 115, 3) := lwq_ok (e := (946, .invokevirtual 115)) (List.all_eq_true.mp lwA_12 _ (List.mem_of_getElem? (i := 8) rfl)) rfl
theorem dW_949 : decode cL_law 949 = .ok (.pop, 1) := lwq_ok (e := (949, .pop)) (List.all_eq_true.mp lwA_12 _ (List.mem_of_getElem? (i := 9) rfl)) rfl
theorem dW_950 : decode cL_law 950 = .ok (.goto 651, 3) := lwq_ok (e := (950, .goto 651)) (List.all_eq_true.mp lwA_12 _ (List.mem_of_getElem? (i := 10) rfl)) rfl
theorem dW_953 : decode cL_law 953 = .ok (.aload_n 1, 1) := lwq_ok (e := (953, .aload_n 1)) (List.all_eq_true.mp lwA_12 _ (List.mem_of_getElem? (i := 11) rfl)) rfl
theorem dW_954 : decode cL_law 954 = .ok (.aload_n 0, 1) := lwq_ok (e := (954, .aload_n 0)) (List.all_eq_true.mp lwA_12 _ (List.mem_of_getElem? (i := 12) rfl)) rfl
theorem dW_955 : decode cL_law 955 = .ok (.iload 4, 2) := lwq_ok (e := (955, .iload 4)) (List.all_eq_true.mp lwA_12 _ (List.mem_of_getElem? (i := 13) rfl)) rfl
theorem dW_957 : decode cL_law 957 = .ok (.iconst 1, 1) := lwq_ok (e := (957, .iconst 1)) (List.all_eq_true.mp lwA_12 _ (List.mem_of_getElem? (i := 14) rfl)) rfl
theorem dW_958 : decode cL_law 958 = .ok (.iadd, 1) := lwq_ok (e := (958, .iadd)) (List.all_eq_true.mp lwA_12 _ (List.mem_of_getElem? (i := 15) rfl)) rfl
theorem dW_959 : decode cL_law 959 = .ok (.iaload, 1) := lwq_ok (e := (959, .iaload)) (List.all_eq_true.mp lwA_12 _ (List.mem_of_getElem? (i := 16) rfl)) rfl
theorem dW_960 : decode cL_law 960 = .ok (.aload_n 0, 1) := lwq_ok (e := (960, .aload_n 0)) (List.all_eq_true.mp lwA_12 _ (List.mem_of_getElem? (i := 17) rfl)) rfl
theorem dW_961 : decode cL_law 961 = .ok (.iload 4, 2) := lwq_ok (e := (961, .iload 4)) (List.all_eq_true.mp lwA_12 _ (List.mem_of_getElem? (i := 18) rfl)) rfl
theorem dW_963 : decode cL_law 963 = .ok (.iconst 2, 1) := lwq_ok (e := (963, .iconst 2)) (List.all_eq_true.mp lwA_12 _ (List.mem_of_getElem? (i := 19) rfl)) rfl
theorem dW_964 : decode cL_law 964 = .ok (.iadd, 1) := lwq_ok (e := (964, .iadd)) (List.all_eq_true.mp lwA_12 _ (List.mem_of_getElem? (i := 20) rfl)) rfl
theorem dW_965 : decode cL_law 965 = .ok (.iaload, 1) := lwq_ok (e := (965, .iaload)) (List.all_eq_true.mp lwA_12 _ (List.mem_of_getElem? (i := 21) rfl)) rfl
theorem dW_966 : decode cL_law 966 = .ok (.invokevirtual 116, 3) := lwq_ok (e := (966, .invokevirtual 116)) (List.all_eq_true.mp lwA_12 _ (List.mem_of_getElem? (i := 22) rfl)) rfl
theorem dW_969 : decode cL_law 969 = .ok (.pop, 1) := lwq_ok (e := (969, .pop)) (List.all_eq_true.mp lwA_12 _ (List.mem_of_getElem? (i := 23) rfl)) rfl
theorem dW_970 : decode cL_law 970 = .ok (.aload_n 2, 1) := lwq_ok (e := (970, .aload_n 2)) (List.all_eq_true.mp lwA_12 _ (List.mem_of_getElem? (i := 24) rfl)) rfl
theorem dW_971 : decode cL_law 971 = .ok (.aload_n 0, 1) := lwq_ok (e := (971, .aload_n 0)) (List.all_eq_true.mp lwA_12 _ (List.mem_of_getElem? (i := 25) rfl)) rfl
theorem dW_972 : decode cL_law 972 = .ok (.iload 4, 2) := lwq_ok (e := (972, .iload 4)) (List.all_eq_true.mp lwA_12 _ (List.mem_of_getElem? (i := 26) rfl)) rfl
theorem dW_974 : decode cL_law 974 = .ok (.iconst 1, 1) := lwq_ok (e := (974, .iconst 1)) (List.all_eq_true.mp lwA_12 _ (List.mem_of_getElem? (i := 27) rfl)) rfl
theorem dW_975 : decode cL_law 975 = .ok (.iadd, 1) := lwq_ok (e := (975, .iadd)) (List.all_eq_true.mp lwA_12 _ (List.mem_of_getElem? (i := 28) rfl)) rfl
theorem dW_976 : decode cL_law 976 = .ok (.iaload, 1) := lwq_ok (e := (976, .iaload)) (List.all_eq_true.mp lwA_12 _ (List.mem_of_getElem? (i := 29) rfl)) rfl
theorem dW_977 : decode cL_law 977 = .ok (.aload_n 0, 1) := lwq_ok (e := (977, .aload_n 0)) (List.all_eq_true.mp lwA_12 _ (List.mem_of_getElem? (i := 30) rfl)) rfl
theorem dW_978 : decode cL_law 978 = .ok (.iload 4, 2) := lwq_ok (e := (978, .iload 4)) (List.all_eq_true.mp lwA_12 _ (List.mem_of_getElem? (i := 31) rfl)) rfl
theorem dW_980 : decode cL_law 980 = .ok (.iconst 2, 1) := lwq_ok (e := (980, .iconst 2)) (List.all_eq_true.mp lwA_12 _ (List.mem_of_getElem? (i := 32) rfl)) rfl
theorem dW_981 : decode cL_law 981 = .ok (.iadd, 1) := lwq_ok (e := (981, .iadd)) (List.all_eq_true.mp lwA_12 _ (List.mem_of_getElem? (i := 33) rfl)) rfl
theorem dW_982 : decode cL_law 982 = .ok (.iaload, 1) := lwq_ok (e := (982, .iaload)) (List.all_eq_true.mp lwA_12 _ (List.mem_of_getElem? (i := 34) rfl)) rfl
theorem dW_983 : decode cL_law 983 = .ok (.invokevirtual 119, 3) := lwq_ok (e := (983, .invokevirtual 119)) (List.all_eq_true.mp lwA_12 _ (List.mem_of_getElem? (i := 35) rfl)) rfl
theorem dW_986 : decode cL_law 986 = .ok (.pop, 1) := lwq_ok (e := (986, .pop)) (List.all_eq_true.mp lwA_12 _ (List.mem_of_getElem? (i := 36) rfl)) rfl
theorem dW_987 : decode cL_law 987 = .ok (.goto 614, 3) := lwq_ok (e := (987, .goto 614)) (List.all_eq_true.mp lwA_12 _ (List.mem_of_getElem? (i := 37) rfl)) rfl
theorem dW_990 : decode cL_law 990 = .ok (.aload_n 1, 1) := lwq_ok (e := (990, .aload_n 1)) (List.all_eq_true.mp lwA_12 _ (List.mem_of_getElem? (i := 38) rfl)) rfl
theorem dW_991 : decode cL_law 991 = .ok (.aload_n 0, 1) := lwq_ok (e := (991, .aload_n 0)) (List.all_eq_true.mp lwA_12 _ (List.mem_of_getElem? (i := 39) rfl)) rfl
def lwL_13 : List (Nat × Instr) := [(992, .iload 4), (994, .iconst 1), (995, .iadd), (996, .iaload), (997, .invokevirtual 120), (1000, .pop), (1001, .aload_n 2), (1002, .aload_n 0), (1003, .iload 4), (1005, .iconst 1), (1006, .iadd), (1007, .iaload), (1008, .invokevirtual 123), (1011, .pop), (1012, .goto 589), (1015, .aload_n 1), (1016, .aload_n 0), (1017, .iload 4), (1019, .iconst 1), (1020, .iadd), (1021, .iaload), (1022, .aload_n 0), (1023, .iload 4), (1025, .iconst 2), (1026, .iadd), (1027, .iaload), (1028, .invokevirtual 124), (1031, .pop), (1032, .aload_n 2), (1033, .aload_n 0), (1034, .iload 4), (1036, .iconst 1), (1037, .iadd), (1038, .iaload), (1039, .aload_n 0), (1040, .iload 4), (1042, .iconst 2), (1043, .iadd), (1044, .iaload), (1045, .invokevirtual 127)]
set_option maxRecDepth 100000 in
theorem lwA_13 : lwL_13.all (fun e => xdec cL_law e && xtg e) = true := dW_top (by decide +kernel)
theorem dW_992 : decode cL_law 992 = .ok (.iload 4, 2) := lwq_ok (e := (992, .iload 4)) (List.all_eq_true.mp lwA_13 _ (List.mem_of_getElem? (i := 0) rfl)) rfl
theorem dW_994 : decode cL_law 994 = .ok (.iconst 1, 1) := lwq_ok (e := (994, .iconst 1)) (List.all_eq_true.mp lwA_13 _ (List.mem_of_getElem? (i := 1) rfl)) rfl
theorem dW_995 : decode cL_law 995 = .ok (.iadd, 1) := lwq_ok (e := (995, .iadd)) (List.all_eq_true.mp lwA_13 _ (List.mem_of_getElem? (i := 2) rfl)) rfl
theorem dW_996 : decode cL_law 996 = .ok (.iaload, 1) := lwq_ok (e := (996, .iaload)) (List.all_eq_true.mp lwA_13 _ (List.mem_of_getElem? (i := 3) rfl)) rfl
theorem dW_997 : decode cL_law 997 = .ok (.invokevirtual 120, 3) := lwq_ok (e := (997, .invokevirtual 120)) (List.all_eq_true.mp lwA_13 _ (List.mem_of_getElem? (i := 4) rfl)) rfl
theorem dW_1000 : decode cL_law 1000 = .ok (.pop, 1) := lwq_ok (e := (1000, .pop)) (List.all_eq_true.mp lwA_13 _ (List.mem_of_getElem? (i := 5) rfl)) rfl
theorem dW_1001 : decode cL_law 1001 = .ok (.aload_n 2, 1) := lwq_ok (e := (1001, .aload_n 2)) (List.all_eq_true.mp lwA_13 _ (List.mem_of_getElem? (i := 6) rfl)) rfl
theorem dW_1002 : decode cL_law 1002 = .ok (.aload_n 0, 1) := lwq_ok (e := (1002, .aload_n 0)) (List.all_eq_true.mp lwA_13 _ (List.mem_of_getElem? (i := 7) rfl)) rfl
theorem dW_1003 : decode cL_law 1003 = .ok (.iload 4, 2) := lwq_ok (e := (1003, .iload 4)) (List.all_eq_true.mp lwA_13 _ (List.mem_of_getElem? (i := 8) rfl)) rfl
theorem dW_1005 : decode cL_law 1005 = .ok (.iconst 1, 1) := lwq_ok (e := (1005, .iconst 1)) (List.all_eq_true.mp lwA_13 _ (List.mem_of_getElem? (i := 9) rfl)) rfl
theorem dW_1006 : decode cL_law 1006 = .ok (.iadd, 1) := lwq_ok (e := (1006, .iadd)) (List.all_eq_true.mp lwA_13 _ (List.mem_of_getElem? (i := 10) rfl)) rfl
theorem dW_1007 : decode cL_law 1007 = .ok (.iaload, 1) := lwq_ok (e := (1007, .iaload)) (List.all_eq_true.mp lwA_13 _ (List.mem_of_getElem? (i := 11) rfl)) rfl
theorem dW_1008 : decode cL_law 1008 = .ok (.invokevirtual 123, 3) := lwq_ok (e := (1008, .invokevirtual 123)) (List.all_eq_true.mp lwA_13 _ (List.mem_of_getElem? (i := 12) rfl)) rfl
theorem dW_1011 : decode cL_law 1011 = .ok (.pop, 1) := lwq_ok (e := (1011, .pop)) (List.all_eq_true.mp lwA_13 _ (List.mem_of_getElem? (i := 13) rfl)) rfl
theorem dW_1012 : decode cL_law 1012 = .ok (.goto 589, 3) := lwq_ok (e := (1012, .goto 589)) (List.all_eq_true.mp lwA_13 _ (List.mem_of_getElem? (i := 14) rfl)) rfl
theorem dW_1015 : decode cL_law 1015 = .ok (.aload_n 1, 1) := lwq_ok (e := (1015, .aload_n 1)) (List.all_eq_true.mp lwA_13 _ (List.mem_of_getElem? (i := 15) rfl)) rfl
theorem dW_1016 : decode cL_law 1016 = .ok (.aload_n 0, 1) := lwq_ok (e := (1016, .aload_n 0)) (List.all_eq_true.mp lwA_13 _ (List.mem_of_getElem? (i := 16) rfl)) rfl
theorem dW_1017 : decode cL_law 1017 = .ok (.iload 4, 2) := lwq_ok (e := (1017, .iload 4)) (List.all_eq_true.mp lwA_13 _ (List.mem_of_getElem? (i := 17) rfl)) rfl
theorem dW_1019 : decode cL_law 1019 = .ok (.iconst 1, 1) := lwq_ok (e := (1019, .iconst 1)) (List.all_eq_true.mp lwA_13 _ (List.mem_of_getElem? (i := 18) rfl)) rfl
theorem dW_1020 : decode cL_law 1020 = .ok (.iadd, 1) := lwq_ok (e := (1020, .iadd)) (List.all_eq_true.mp lwA_13 _ (List.mem_of_getElem? (i := 19) rfl)) rfl
theorem dW_1021 : decode cL_law 1021 = .ok (.iaload, 1) := lwq_ok (e := (1021, .iaload)) (List.all_eq_true.mp lwA_13 _ (List.mem_of_getElem? (i := 20) rfl)) rfl
theorem dW_1022 : decode cL_law 1022 = .ok (.aload_n 0, 1) := lwq_ok (e := (1022, .aload_n 0)) (List.all_eq_true.mp lwA_13 _ (List.mem_of_getElem? (i := 21) rfl)) rfl
theorem dW_1023 : decode cL_law 1023 = .ok (.iload 4, 2) := lwq_ok (e := (1023, .iload 4)) (List.all_eq_true.mp lwA_13 _ (List.mem_of_getElem? (i := 22) rfl)) rfl
theorem dW_1025 : decode cL_law 1025 = .ok (.iconst 2, 1) := lwq_ok (e := (1025, .iconst 2)) (List.all_eq_true.mp lwA_13 _ (List.mem_of_getElem? (i := 23) rfl)) rfl
theorem dW_1026 : decode cL_law 1026 = .ok (.iadd, 1) := lwq_ok (e := (1026, .iadd)) (List.all_eq_true.mp lwA_13 _ (List.mem_of_getElem? (i := 24) rfl)) rfl
theorem dW_1027 : decode cL_law 1027 = .ok (.iaload, 1) := lwq_ok (e := (1027, .iaload)) (List.all_eq_true.mp lwA_13 _ (List.mem_of_getElem? (i := 25) rfl)) rfl
theorem dW_1028 : decode cL_law 1028 = .ok (.invokevirtual 124, 3) := lwq_ok (e := (1028, .invokevirtual 124)) (List.all_eq_true.mp lwA_13 _ (List.mem_of_getElem? (i := 26) rfl)) rfl
theorem dW_1031 : decode cL_law 1031 = .ok (.pop, 1) := lwq_ok (e := (1031, .pop)) (List.all_eq_true.mp lwA_13 _ (List.mem_of_getElem? (i := 27) rfl)) rfl
theorem dW_1032 : decode cL_law 1032 = .ok (.aload_n 2, 1) := lwq_ok (e := (1032, .aload_n 2)) (List.all_eq_true.mp lwA_13 _ (List.mem_of_getElem? (i := 28) rfl)) rfl
theorem dW_1033 : decode cL_law 1033 = .ok (.aload_n 0, 1) := lwq_ok (e := (1033, .aload_n 0)) (List.all_eq_true.mp lwA_13 _ (List.mem_of_getElem? (i := 29) rfl)) rfl
theorem dW_1034 : decode cL_law 1034 = .ok (.iload 4, 2) := lwq_ok (e := (1034, .iload 4)) (List.all_eq_true.mp lwA_13 _ (List.mem_of_getElem? (i := 30) rfl)) rfl
theorem dW_1036 : decode cL_law 1036 = .ok (.iconst 1, 1) := lwq_ok (e := (1036, .iconst 1)) (List.all_eq_true.mp lwA_13 _ (List.mem_of_getElem? (i := 31) rfl)) rfl
theorem dW_1037 : decode cL_law 1037 = .ok (.iadd, 1) := lwq_ok (e := (1037, .iadd)) (List.all_eq_true.mp lwA_13 _ (List.mem_of_getElem? (i := 32) rfl)) rfl
theorem dW_1038 : decode cL_law 1038 = .ok (.iaload, 1) := lwq_ok (e := (1038, .iaload)) (List.all_eq_true.mp lwA_13 _ (List.mem_of_getElem? (i := 33) rfl)) rfl
theorem dW_1039 : decode cL_law 1039 = .ok (.aload_n 0, 1) := lwq_ok (e := (1039, .aload_n 0)) (List.all_eq_true.mp lwA_13 _ (List.mem_of_getElem? (i := 34) rfl)) rfl
theorem dW_1040 : decode cL_law 1040 = .ok (.iload 4, 2) := lwq_ok (e := (1040, .iload 4)) (List.all_eq_true.mp lwA_13 _ (List.mem_of_getElem? (i := 35) rfl)) rfl
theorem dW_1042 : decode cL_law 1042 = .ok (.iconst 2, 1) := lwq_ok (e := (1042, .iconst 2)) (List.all_eq_true.mp lwA_13 _ (List.mem_of_getElem? (i := 36) rfl)) rfl
theorem dW_1043 : decode cL_law 1043 = .ok (.iadd, 1) := lwq_ok (e := (1043, .iadd)) (List.all_eq_true.mp lwA_13 _ (List.mem_of_getElem? (i := 37) rfl)) rfl
theorem dW_1044 : decode cL_law 1044 = .ok (.iaload, 1) := lwq_ok (e := (1044, .iaload)) (List.all_eq_true.mp lwA_13 _ (List.mem_of_getElem? (i := 38) rfl)) rfl
theorem dW_1045 : decode cL_law 1045 = .ok (.invokevirtual 127, 3) := lwq_ok (e := (1045, .invokevirtual 127)) (List.all_eq_true.mp lwA_13 _ (List.mem_of_getElem? (i := 39) rfl)) rfl
def lwL_14 : List (Nat × Instr) := [(1048, .pop), (1049, .goto 552), (1052, .aload_n 1), (1053, .aload_n 0), (1054, .iload 4), (1056, .iconst 1), (1057, .iadd), (1058, .iaload), (1059, .aload_n 0), (1060, .iload 4), (1062, .iconst 2), (1063, .iadd), (1064, .iaload), (1065, .ifCond .eq 7), (1068, .iconst 1), (1069, .goto 4), (1072, .iconst 0), (1073, .invokevirtual 128), (1076, .pop), (1077, .aload_n 2), (1078, .aload_n 0), (1079, .iload 4), (1081, .iconst 1), (1082, .iadd), (1083, .iaload), (1084, .aload_n 0), (1085, .iload 4), (1087, .iconst 2), (1088, .iadd), (1089, .iaload), (1090, .ifCond .eq 7), (1093, .iconst 1), (1094, .goto 4), (1097, .iconst 0), (1098, .invokevirtual 132), (1101, .pop), (1102, .goto 499), (1105, .aload_n 1), (1106, .aload_n 0), (1107, .iload 4)]
set_option maxRecDepth 100000 in
theorem lwA_14 : lwL_14.all (fun e => xdec cL_law e && xtg e) = true := dW_top (by decide +kernel)
theorem dW_1048 : decode cL_law 1048 = .ok (.pop, 1) := lwq_ok (e := (1048, .pop)) (List.all_eq_true.mp lwA_14 _ (List.mem_of_getElem? (i := 0) rfl)) rfl
theorem dW_1049 : decode cL_law 1049 = .ok (.goto 552, 3) := lwq_ok (e := (1049, .goto 552)) (List.all_eq_true.mp lwA_14 _ (List.mem_of_getElem? (i := 1) rfl)) rfl
theorem dW_1052 : decode cL_law 1052 = .ok (.aload_n 1, 1) := lwq_ok (e := (1052, .aload_n 1)) (List.all_eq_true.mp lwA_14 _ (List.mem_of_getElem? (i := 2) rfl)) rfl
theorem dW_1053 : decode cL_law 1053 = .ok (.aload_n 0, 1) := lwq_ok (e := (1053, .aload_n 0)) (List.all_eq_true.mp lwA_14 _ (List.mem_of_getElem? (i := 3) rfl)) rfl
theorem dW_1054 : decode cL_law 1054 = .ok (.iload 4, 2) := lwq_ok (e := (1054, .iload 4)) (List.all_eq_true.mp lwA_14 _ (List.mem_of_getElem? (i := 4) rfl)) rfl
theorem dW_1056 : decode cL_law 1056 = .ok (.iconst 1, 1) := lwq_ok (e := (1056, .iconst 1)) (List.all_eq_true.mp lwA_14 _ (List.mem_of_getElem? (i := 5) rfl)) rfl
theorem dW_1057 : decode cL_law 1057 = .ok (.iadd, 1) := lwq_ok (e := (1057, .iadd)) (List.all_eq_true.mp lwA_14 _ (List.mem_of_getElem? (i := 6) rfl)) rfl
theorem dW_1058 : decode cL_law 1058 = .ok (.iaload, 1) := lwq_ok (e := (1058, .iaload)) (List.all_eq_true.mp lwA_14 _ (List.mem_of_getElem? (i := 7) rfl)) rfl
theorem dW_1059 : decode cL_law 1059 = .ok (.aload_n 0, 1) := lwq_ok (e := (1059, .aload_n 0)) (List.all_eq_true.mp lwA_14 _ (List.mem_of_getElem? (i := 8) rfl)) rfl
theorem dW_1060 : decode cL_law 1060 = .ok (.iload 4, 2) := lwq_ok (e := (1060, .iload 4)) (List.all_eq_true.mp lwA_14 _ (List.mem_of_getElem? (i := 9) rfl)) rfl
theorem dW_1062 : decode cL_law 1062 = .ok (.iconst 2, 1) := lwq_ok (e := (1062, .iconst 2)) (List.all_eq_true.mp lwA_14 _ (List.mem_of_getElem? (i := 10) rfl)) rfl
theorem dW_1063 : decode cL_law 1063 = .ok (.iadd, 1) := lwq_ok (e := (1063, .iadd)) (List.all_eq_true.mp lwA_14 _ (List.mem_of_getElem? (i := 11) rfl)) rfl
theorem dW_1064 : decode cL_law 1064 = .ok (.iaload, 1) := lwq_ok (e := (1064, .iaload)) (List.all_eq_true.mp lwA_14 _ (List.mem_of_getElem? (i := 12) rfl)) rfl
theorem dW_1065 : decode cL_law 1065 = .ok (.ifCond .eq 7, 3) := lwq_ok (e := (1065, .ifCond .eq 7)) (List.all_eq_true.mp lwA_14 _ (List.mem_of_getElem? (i := 13) rfl)) rfl
theorem dW_1068 : decode cL_law 1068 = .ok (.iconst 1, 1) := lwq_ok (e := (1068, .iconst 1)) (List.all_eq_true.mp lwA_14 _ (List.mem_of_getElem? (i := 14) rfl)) rfl
theorem dW_1069 : decode cL_law 1069 = .ok (.goto 4, 3) := lwq_ok (e := (1069, .goto 4)) (List.all_eq_true.mp lwA_14 _ (List.mem_of_getElem? (i := 15) rfl)) rfl
theorem dW_1072 : decode cL_law 1072 = .ok (.iconst 0, 1) := lwq_ok (e := (1072, .iconst 0)) (List.all_eq_true.mp lwA_14 _ (List.mem_of_getElem? (i := 16) rfl)) rfl
theorem dW_1073 : decode cL_law 1073 = .ok (.invokevirtual 128, 3) := lwq_ok (e := (1073, .invokevirtual 128)) (List.all_eq_true.mp lwA_14 _ (List.mem_of_getElem? (i := 17) rfl)) rfl
theorem dW_1076 : decode cL_law 1076 = .ok (.pop, 1) := lwq_ok (e := (1076, .pop)) (List.all_eq_true.mp lwA_14 _ (List.mem_of_getElem? (i := 18) rfl)) rfl
theorem dW_1077 : decode cL_law 1077 = .ok (.aload_n 2, 1) := lwq_ok (e := (1077, .aload_n 2)) (List.all_eq_true.mp lwA_14 _ (List.mem_of_getElem? (i := 19) rfl)) rfl
theorem dW_1078 : decode cL_law 1078 = .ok (.aload_n 0, 1) := lwq_ok (e := (1078, .aload_n 0)) (List.all_eq_true.mp lwA_14 _ (List.mem_of_getElem? (i := 20) rfl)) rfl
theorem dW_1079 : decode cL_law 1079 = .ok (.iload 4, 2) := lwq_ok (e := (1079, .iload 4)) (List.all_eq_true.mp lwA_14 _ (List.mem_of_getElem? (i := 21) rfl)) rfl
theorem dW_1081 : decode cL_law 1081 = .ok (.iconst 1, 1) := lwq_ok (e := (1081, .iconst 1)) (List.all_eq_true.mp lwA_14 _ (List.mem_of_getElem? (i := 22) rfl)) rfl
theorem dW_1082 : decode cL_law 1082 = .ok (.iadd, 1) := lwq_ok (e := (1082, .iadd)) (List.all_eq_true.mp lwA_14 _ (List.mem_of_getElem? (i := 23) rfl)) rfl
theorem dW_1083 : decode cL_law 1083 = .ok (.iaload, 1) := lwq_ok (e := (1083, .iaload)) (List.all_eq_true.mp lwA_14 _ (List.mem_of_getElem? (i := 24) rfl)) rfl
theorem dW_1084 : decode cL_law 1084 = .ok (.aload_n 0, 1) := lwq_ok (e := (1084, .aload_n 0)) (List.all_eq_true.mp lwA_14 _ (List.mem_of_getElem? (i := 25) rfl)) rfl
theorem dW_1085 : decode cL_law 1085 = .ok (.iload 4, 2) := lwq_ok (e := (1085, .iload 4)) (List.all_eq_true.mp lwA_14 _ (List.mem_of_getElem? (i := 26) rfl)) rfl
theorem dW_1087 : decode cL_law 1087 = .ok (.iconst 2, 1) := lwq_ok (e := (1087, .iconst 2)) (List.all_eq_true.mp lwA_14 _ (List.mem_of_getElem? (i := 27) rfl)) rfl
theorem dW_1088 : decode cL_law 1088 = .ok (.iadd, 1) := lwq_ok (e := (1088, .iadd)) (List.all_eq_true.mp lwA_14 _ (List.mem_of_getElem? (i := 28) rfl)) rfl
theorem dW_1089 : decode cL_law 1089 = .ok (.iaload, 1) := lwq_ok (e := (1089, .iaload)) (List.all_eq_true.mp lwA_14 _ (List.mem_of_getElem? (i := 29) rfl)) rfl
theorem dW_1090 : decode cL_law 1090 = .ok (.ifCond .eq 7, 3) := lwq_ok (e := (1090, .ifCond .eq 7)) (List.all_eq_true.mp lwA_14 _ (List.mem_of_getElem? (i := 30) rfl)) rfl
theorem dW_1093 : decode cL_law 1093 = .ok (.iconst 1, 1) := lwq_ok (e := (1093, .iconst 1)) (List.all_eq_true.mp lwA_14 _ (List.mem_of_getElem? (i := 31) rfl)) rfl
theorem dW_1094 : decode cL_law 1094 = .ok (.goto 4, 3) := lwq_ok (e := (1094, .goto 4)) (List.all_eq_true.mp lwA_14 _ (List.mem_of_getElem? (i := 32) rfl)) rfl
theorem dW_1097 : decode cL_law 1097 = .ok (.iconst 0, 1) := lwq_ok (e := (1097, .iconst 0)) (List.all_eq_true.mp lwA_14 _ (List.mem_of_getElem? (i := 33) rfl)) rfl
theorem dW_1098 : decode cL_law 1098 = .ok (.invokevirtual 132, 3) := lwq_ok (e := (1098, .invokevirtual 132)) (List.all_eq_true.mp lwA_14 _ (List.mem_of_getElem? (i := 34) rfl)) rfl
theorem dW_1101 : decode cL_law 1101 = .ok (.pop, 1) := lwq_ok (e := (1101, .pop)) (List.all_eq_true.mp lwA_14 _ (List.mem_of_getElem? (i := 35) rfl)) rfl
theorem dW_1102 : decode cL_law 1102 = .ok (.goto 499, 3) := lwq_ok (e := (1102, .goto 499)) (List.all_eq_true.mp lwA_14 _ (List.mem_of_getElem? (i := 36) rfl)) rfl
theorem dW_1105 : decode cL_law 1105 = .ok (.aload_n 1, 1) := lwq_ok (e := (1105, .aload_n 1)) (List.all_eq_true.mp lwA_14 _ (List.mem_of_getElem? (i := 37) rfl)) rfl
theorem dW_1106 : decode cL_law 1106 = .ok (.aload_n 0, 1) := lwq_ok (e := (1106, .aload_n 0)) (List.all_eq_true.mp lwA_14 _ (List.mem_of_getElem? (i := 38) rfl)) rfl
theorem dW_1107 : decode cL_law 1107 = .ok (.iload 4, 2) := lwq_ok (e := (1107, .iload 4)) (List.all_eq_true.mp lwA_14 _ (List.mem_of_getElem? (i := 39) rfl)) rfl
def lwL_15 : List (Nat × Instr) := [(1109, .iconst 1), (1110, .iadd), (1111, .iaload), (1112, .invokevirtual 133), (1115, .pop), (1116, .aload_n 2), (1117, .aload_n 0), (1118, .iload 4), (1120, .iconst 1), (1121, .iadd), (1122, .iaload), (1123, .invokevirtual 136), (1126, .pop), (1127, .goto 474), (1130, .aload_n 1), (1131, .invokevirtual 137), (1134, .pop), (1135, .aload_n 2), (1136, .invokevirtual 140), (1139, .pop), (1140, .goto 461), (1143, .aload_n 1), (1144, .aload_n 0), (1145, .iload 4), (1147, .iconst 1), (1148, .iadd), (1149, .iaload), (1150, .invokevirtual 141), (1153, .pop), (1154, .aload_n 2), (1155, .aload_n 0), (1156, .iload 4), (1158, .iconst 1), (1159, .iadd), (1160, .iaload), (1161, .invokevirtual 144), (1164, .pop), (1165, .goto 436), (1168, .aload_n 1), (1169, .aload_n 0)]
set_option maxRecDepth 100000 in
theorem lwA_15 : lwL_15.all (fun e => xdec cL_law e && xtg e) = true := dW_top (by decide +kernel)
theorem dW_1109 : decode cL_law 1109 = .ok (.iconst 1, 1) := lwq_ok (e := (1109, .iconst 1)) (List.all_eq_true.mp lwA_15 _ (List.mem_of_getElem? (i := 0) rfl)) rfl
theorem dW_1110 : decode cL_law 1110 = .ok (.iadd, 1) := lwq_ok (e := (1110, .iadd)) (List.all_eq_true.mp lwA_15 _ (List.mem_of_getElem? (i := 1) rfl)) rfl
theorem dW_1111 : decode cL_law 1111 = .ok (.iaload, 1) := lwq_ok (e := (1111, .iaload)) (List.all_eq_true.mp lwA_15 _ (List.mem_of_getElem? (i := 2) rfl)) rfl
theorem dW_1112 : decode cL_law 1112 = .ok (.invokevirtual 133, 3) := lwq_ok (e := (1112, .invokevirtual 133)) (List.all_eq_true.mp lwA_15 _ (List.mem_of_getElem? (i := 3) rfl)) rfl
theorem dW_1115 : decode cL_law 1115 = .ok (.pop, 1) := lwq_ok (e := (1115, .pop)) (List.all_eq_true.mp lwA_15 _ (List.mem_of_getElem? (i := 4) rfl)) rfl
theorem dW_1116 : decode cL_law 1116 = .ok (.aload_n 2, 1) := lwq_ok (e := (1116, .aload_n 2)) (List.all_eq_true.mp lwA_15 _ (List.mem_of_getElem? (i := 5) rfl)) rfl
theorem dW_1117 : decode cL_law 1117 = .ok (.aload_n 0, 1) := lwq_ok (e := (1117, .aload_n 0)) (List.all_eq_true.mp lwA_15 _ (List.mem_of_getElem? (i := 6) rfl)) rfl
theorem dW_1118 : decode cL_law 1118 = .ok (.iload 4, 2) := lwq_ok (e := (1118, .iload 4)) (List.all_eq_true.mp lwA_15 _ (List.mem_of_getElem? (i := 7) rfl)) rfl
theorem dW_1120 : decode cL_law 1120 = .ok (.iconst 1, 1) := lwq_ok (e := (1120, .iconst 1)) (List.all_eq_true.mp lwA_15 _ (List.mem_of_getElem? (i := 8) rfl)) rfl
theorem dW_1121 : decode cL_law 1121 = .ok (.iadd, 1) := lwq_ok (e := (1121, .iadd)) (List.all_eq_true.mp lwA_15 _ (List.mem_of_getElem? (i := 9) rfl)) rfl
theorem dW_1122 : decode cL_law 1122 = .ok (.iaload, 1) := lwq_ok (e := (1122, .iaload)) (List.all_eq_true.mp lwA_15 _ (List.mem_of_getElem? (i := 10) rfl)) rfl
theorem dW_1123 : decode cL_law 1123 = .ok (.invokevirtual 136, 3) := lwq_ok (e := (1123, .invokevirtual 136)) (List.all_eq_true.mp lwA_15 _ (List.mem_of_getElem? (i := 11) rfl)) rfl
theorem dW_1126 : decode cL_law 1126 = .ok (.pop, 1) := lwq_ok (e := (1126, .pop)) (List.all_eq_true.mp lwA_15 _ (List.mem_of_getElem? (i := 12) rfl)) rfl
theorem dW_1127 : decode cL_law 1127 = .ok (.goto 474, 3) := lwq_ok (e := (1127, .goto 474)) (List.all_eq_true.mp lwA_15 _ (List.mem_of_getElem? (i := 13) rfl)) rfl
theorem dW_1130 : decode cL_law 1130 = .ok (.aload_n 1, 1) := lwq_ok (e := (1130, .aload_n 1)) (List.all_eq_true.mp lwA_15 _ (List.mem_of_getElem? (i := 14) rfl)) rfl
theorem dW_1131 : decode cL_law 1131 = .ok (.invokevirtual 137, 3) := lwq_ok (e := (1131, .invokevirtual 137)) (List.all_eq_true.mp lwA_15 _ (List.mem_of_getElem? (i := 15) rfl)) rfl
theorem dW_1134 : decode cL_law 1134 = .ok (.pop, 1) := lwq_ok (e := (1134, .pop)) (List.all_eq_true.mp lwA_15 _ (List.mem_of_getElem? (i := 16) rfl)) rfl
theorem dW_1135 : decode cL_law 1135 = .ok (.aload_n 2, 1) := lwq_ok (e := (1135, .aload_n 2)) (List.all_eq_true.mp lwA_15 _ (List.mem_of_getElem? (i := 17) rfl)) rfl
theorem dW_1136 : decode cL_law 1136 = .ok (.invokevirtual 140, 3) := lwq_ok (e := (1136, .invokevirtual 140)) (List.all_eq_true.mp lwA_15 _ (List.mem_of_getElem? (i := 18) rfl)) rfl
theorem dW_1139 : decode cL_law 1139 = .ok (.pop, 1) := lwq_ok (e := (1139, .pop)) (List.all_eq_true.mp lwA_15 _ (List.mem_of_getElem? (i := 19) rfl)) rfl
theorem dW_1140 : decode cL_law 1140 = .ok (.goto 461, 3) := lwq_ok (e := (1140, .goto 461)) (List.all_eq_true.mp lwA_15 _ (List.mem_of_getElem? (i := 20) rfl)) rfl
theorem dW_1143 : decode cL_law 1143 = .ok (.aload_n 1, 1) := lwq_ok (e := (1143, .aload_n 1)) (List.all_eq_true.mp lwA_15 _ (List.mem_of_getElem? (i := 21) rfl)) rfl
theorem dW_1144 : decode cL_law 1144 = .ok (.aload_n 0, 1) := lwq_ok (e := (1144, .aload_n 0)) (List.all_eq_true.mp lwA_15 _ (List.mem_of_getElem? (i := 22) rfl)) rfl
theorem dW_1145 : decode cL_law 1145 = .ok (.iload 4, 2) := lwq_ok (e := (1145, .iload 4)) (List.all_eq_true.mp lwA_15 _ (List.mem_of_getElem? (i := 23) rfl)) rfl
theorem dW_1147 : decode cL_law 1147 = .ok (.iconst 1, 1) := lwq_ok (e := (1147, .iconst 1)) (List.all_eq_true.mp lwA_15 _ (List.mem_of_getElem? (i := 24) rfl)) rfl
theorem dW_1148 : decode cL_law 1148 = .ok (.iadd, 1) := lwq_ok (e := (1148, .iadd)) (List.all_eq_true.mp lwA_15 _ (List.mem_of_getElem? (i := 25) rfl)) rfl
theorem dW_1149 : decode cL_law 1149 = .ok (.iaload, 1) := lwq_ok (e := (1149, .iaload)) (List.all_eq_true.mp lwA_15 _ (List.mem_of_getElem? (i := 26) rfl)) rfl
theorem dW_1150 : decode cL_law 1150 = .ok (.invokevirtual 141, 3) := lwq_ok (e := (1150, .invokevirtual 141)) (List.all_eq_true.mp lwA_15 _ (List.mem_of_getElem? (i := 27) rfl)) rfl
theorem dW_1153 : decode cL_law 1153 = .ok (.pop, 1) := lwq_ok (e := (1153, .pop)) (List.all_eq_true.mp lwA_15 _ (List.mem_of_getElem? (i := 28) rfl)) rfl
theorem dW_1154 : decode cL_law 1154 = .ok (.aload_n 2, 1) := lwq_ok (e := (1154, .aload_n 2)) (List.all_eq_true.mp lwA_15 _ (List.mem_of_getElem? (i := 29) rfl)) rfl
theorem dW_1155 : decode cL_law 1155 = .ok (.aload_n 0, 1) := lwq_ok (e := (1155, .aload_n 0)) (List.all_eq_true.mp lwA_15 _ (List.mem_of_getElem? (i := 30) rfl)) rfl
theorem dW_1156 : decode cL_law 1156 = .ok (.iload 4, 2) := lwq_ok (e := (1156, .iload 4)) (List.all_eq_true.mp lwA_15 _ (List.mem_of_getElem? (i := 31) rfl)) rfl
theorem dW_1158 : decode cL_law 1158 = .ok (.iconst 1, 1) := lwq_ok (e := (1158, .iconst 1)) (List.all_eq_true.mp lwA_15 _ (List.mem_of_getElem? (i := 32) rfl)) rfl
theorem dW_1159 : decode cL_law 1159 = .ok (.iadd, 1) := lwq_ok (e := (1159, .iadd)) (List.all_eq_true.mp lwA_15 _ (List.mem_of_getElem? (i := 33) rfl)) rfl
theorem dW_1160 : decode cL_law 1160 = .ok (.iaload, 1) := lwq_ok (e := (1160, .iaload)) (List.all_eq_true.mp lwA_15 _ (List.mem_of_getElem? (i := 34) rfl)) rfl
theorem dW_1161 : decode cL_law 1161 = .ok (.invokevirtual 144, 3) := lwq_ok (e := (1161, .invokevirtual 144)) (List.all_eq_true.mp lwA_15 _ (List.mem_of_getElem? (i := 35) rfl)) rfl
theorem dW_1164 : decode cL_law 1164 = .ok (.pop, 1) := lwq_ok (e := (1164, .pop)) (List.all_eq_true.mp lwA_15 _ (List.mem_of_getElem? (i := 36) rfl)) rfl
theorem dW_1165 : decode cL_law 1165 = .ok (.goto 436, 3) := lwq_ok (e := (1165, .goto 436)) (List.all_eq_true.mp lwA_15 _ (List.mem_of_getElem? (i := 37) rfl)) rfl
theorem dW_1168 : decode cL_law 1168 = .ok (.aload_n 1, 1) := lwq_ok (e := (1168, .aload_n 1)) (List.all_eq_true.mp lwA_15 _ (List.mem_of_getElem? (i := 38) rfl)) rfl
theorem dW_1169 : decode cL_law 1169 = .ok (.aload_n 0, 1) := lwq_ok (e := (1169, .aload_n 0)) (List.all_eq_true.mp lwA_15 _ (List.mem_of_getElem? (i := 39) rfl)) rfl
def lwL_16 : List (Nat × Instr) := [(1170, .iload 4), (1172, .iconst 1), (1173, .iadd), (1174, .iaload), (1175, .aload_n 0), (1176, .iload 4), (1178, .iconst 2), (1179, .iadd), (1180, .iaload), (1181, .invokevirtual 145), (1184, .pop), (1185, .aload_n 2), (1186, .aload_n 0), (1187, .iload 4), (1189, .iconst 1), (1190, .iadd), (1191, .iaload), (1192, .aload_n 0), (1193, .iload 4), (1195, .iconst 2), (1196, .iadd), (1197, .iaload), (1198, .invokevirtual 148), (1201, .pop), (1202, .goto 399), (1205, .aload_n 1), (1206, .aload_n 0), (1207, .iload 4), (1209, .iconst 1), (1210, .iadd), (1211, .iaload), (1212, .aload_n 0), (1213, .iload 4), (1215, .iconst 2), (1216, .iadd), (1217, .iaload), (1218, .invokevirtual 149), (1221, .pop), (1222, .aload_n 2), (1223, .aload_n 0)]
set_option maxRecDepth 100000 in
theorem lwA_16 : lwL_16.all (fun e => xdec cL_law e && xtg e) = true := dW_top (by decide +kernel)
theorem dW_1170 : decode cL_law 1170 = .ok (.iload 4, 2) := lwq_ok (e := (1170, .iload 4)) (List.all_eq_true.mp lwA_16 _ (List.mem_of_getElem? (i := 0) rfl)) rfl
theorem dW_1172 : decode cL_law 1172 = .ok (.iconst 1, 1) := lwq_ok (e := (1172, .iconst 1)) (List.all_eq_true.mp lwA_16 _ (List.mem_of_getElem? (i := 1) rfl)) rfl
theorem dW_1173 : decode cL_law 1173 = .ok (.iadd, 1) := lwq_ok (e := (1173, .iadd)) (List.all_eq_true.mp lwA_16 _ (List.mem_of_getElem? (i := 2) rfl)) rfl
theorem dW_1174 : decode cL_law 1174 = .ok (.iaload, 1) := lwq_ok (e := (1174, .iaload)) (List.all_eq_true.mp lwA_16 _ (List.mem_of_getElem? (i := 3) rfl)) rfl
theorem dW_1175 : decode cL_law 1175 = .ok (.aload_n 0, 1) := lwq_ok (e := (1175, .aload_n 0)) (List.all_eq_true.mp lwA_16 _ (List.mem_of_getElem? (i := 4) rfl)) rfl
theorem dW_1176 : decode cL_law 1176 = .ok (.iload 4, 2) := lwq_ok (e := (1176, .iload 4)) (List.all_eq_true.mp lwA_16 _ (List.mem_of_getElem? (i := 5) rfl)) rfl
theorem dW_1178 : decode cL_law 1178 = .ok (.iconst 2, 1) := lwq_ok (e := (1178, .iconst 2)) (List.all_eq_true.mp lwA_16 _ (List.mem_of_getElem? (i := 6) rfl)) rfl
theorem dW_1179 : decode cL_law 1179 = .ok (.iadd, 1) := lwq_ok (e := (1179, .iadd)) (List.all_eq_true.mp lwA_16 _ (List.mem_of_getElem? (i := 7) rfl)) rfl
theorem dW_1180 : decode cL_law 1180 = .ok (.iaload, 1) := lwq_ok (e := (1180, .iaload)) (List.all_eq_true.mp lwA_16 _ (List.mem_of_getElem? (i := 8) rfl)) rfl
theorem dW_1181 : decode cL_law 1181 = .ok (.invokevirtual 145, 3) := lwq_ok (e := (1181, .invokevirtual 145)) (List.all_eq_true.mp lwA_16 _ (List.mem_of_getElem? (i := 9) rfl)) rfl
theorem dW_1184 : decode cL_law 1184 = .ok (.pop, 1) := lwq_ok (e := (1184, .pop)) (List.all_eq_true.mp lwA_16 _ (List.mem_of_getElem? (i := 10) rfl)) rfl
theorem dW_1185 : decode cL_law 1185 = .ok (.aload_n 2, 1) := lwq_ok (e := (1185, .aload_n 2)) (List.all_eq_true.mp lwA_16 _ (List.mem_of_getElem? (i := 11) rfl)) rfl
theorem dW_1186 : decode cL_law 1186 = .ok (.aload_n 0, 1) := lwq_ok (e := (1186, .aload_n 0)) (List.all_eq_true.mp lwA_16 _ (List.mem_of_getElem? (i := 12) rfl)) rfl
theorem dW_1187 : decode cL_law 1187 = .ok (.iload 4, 2) := lwq_ok (e := (1187, .iload 4)) (List.all_eq_true.mp lwA_16 _ (List.mem_of_getElem? (i := 13) rfl)) rfl
theorem dW_1189 : decode cL_law 1189 = .ok (.iconst 1, 1) := lwq_ok (e := (1189, .iconst 1)) (List.all_eq_true.mp lwA_16 _ (List.mem_of_getElem? (i := 14) rfl)) rfl
theorem dW_1190 : decode cL_law 1190 = .ok (.iadd, 1) := lwq_ok (e := (1190, .iadd)) (List.all_eq_true.mp lwA_16 _ (List.mem_of_getElem? (i := 15) rfl)) rfl
theorem dW_1191 : decode cL_law 1191 = .ok (.iaload, 1) := lwq_ok (e := (1191, .iaload)) (List.all_eq_true.mp lwA_16 _ (List.mem_of_getElem? (i := 16) rfl)) rfl
theorem dW_1192 : decode cL_law 1192 = .ok (.aload_n 0, 1) := lwq_ok (e := (1192, .aload_n 0)) (List.all_eq_true.mp lwA_16 _ (List.mem_of_getElem? (i := 17) rfl)) rfl
theorem dW_1193 : decode cL_law 1193 = .ok (.iload 4, 2) := lwq_ok (e := (1193, .iload 4)) (List.all_eq_true.mp lwA_16 _ (List.mem_of_getElem? (i := 18) rfl)) rfl
theorem dW_1195 : decode cL_law 1195 = .ok (.iconst 2, 1) := lwq_ok (e := (1195, .iconst 2)) (List.all_eq_true.mp lwA_16 _ (List.mem_of_getElem? (i := 19) rfl)) rfl
theorem dW_1196 : decode cL_law 1196 = .ok (.iadd, 1) := lwq_ok (e := (1196, .iadd)) (List.all_eq_true.mp lwA_16 _ (List.mem_of_getElem? (i := 20) rfl)) rfl
theorem dW_1197 : decode cL_law 1197 = .ok (.iaload, 1) := lwq_ok (e := (1197, .iaload)) (List.all_eq_true.mp lwA_16 _ (List.mem_of_getElem? (i := 21) rfl)) rfl
theorem dW_1198 : decode cL_law 1198 = .ok (.invokevirtual 148, 3) := lwq_ok (e := (1198, .invokevirtual 148)) (List.all_eq_true.mp lwA_16 _ (List.mem_of_getElem? (i := 22) rfl)) rfl
theorem dW_1201 : decode cL_law 1201 = .ok (.pop, 1) := lwq_ok (e := (1201, .pop)) (List.all_eq_true.mp lwA_16 _ (List.mem_of_getElem? (i := 23) rfl)) rfl
theorem dW_1202 : decode cL_law 1202 = .ok (.goto 399, 3) := lwq_ok (e := (1202, .goto 399)) (List.all_eq_true.mp lwA_16 _ (List.mem_of_getElem? (i := 24) rfl)) rfl
theorem dW_1205 : decode cL_law 1205 = .ok (.aload_n 1, 1) := lwq_ok (e := (1205, .aload_n 1)) (List.all_eq_true.mp lwA_16 _ (List.mem_of_getElem? (i := 25) rfl)) rfl
theorem dW_1206 : decode cL_law 1206 = .ok (.aload_n 0, 1) := lwq_ok (e := (1206, .aload_n 0)) (List.all_eq_true.mp lwA_16 _ (List.mem_of_getElem? (i := 26) rfl)) rfl
theorem dW_1207 : decode cL_law 1207 = .ok (.iload 4, 2) := lwq_ok (e := (1207, .iload 4)) (List.all_eq_true.mp lwA_16 _ (List.mem_of_getElem? (i := 27) rfl)) rfl
theorem dW_1209 : decode cL_law 1209 = .ok (.iconst 1, 1) := lwq_ok (e := (1209, .iconst 1)) (List.all_eq_true.mp lwA_16 _ (List.mem_of_getElem? (i := 28) rfl)) rfl
theorem dW_1210 : decode cL_law 1210 = .ok (.iadd, 1) := lwq_ok (e := (1210, .iadd)) (List.all_eq_true.mp lwA_16 _ (List.mem_of_getElem? (i := 29) rfl)) rfl
theorem dW_1211 : decode cL_law 1211 = .ok (.iaload, 1) := lwq_ok (e := (1211, .iaload)) (List.all_eq_true.mp lwA_16 _ (List.mem_of_getElem? (i := 30) rfl)) rfl
theorem dW_1212 : decode cL_law 1212 = .ok (.aload_n 0, 1) := lwq_ok (e := (1212, .aload_n 0)) (List.all_eq_true.mp lwA_16 _ (List.mem_of_getElem? (i := 31) rfl)) rfl
theorem dW_1213 : decode cL_law 1213 = .ok (.iload 4, 2) := lwq_ok (e := (1213, .iload 4)) (List.all_eq_true.mp lwA_16 _ (List.mem_of_getElem? (i := 32) rfl)) rfl
theorem dW_1215 : decode cL_law 1215 = .ok (.iconst 2, 1) := lwq_ok (e := (1215, .iconst 2)) (List.all_eq_true.mp lwA_16 _ (List.mem_of_getElem? (i := 33) rfl)) rfl
theorem dW_1216 : decode cL_law 1216 = .ok (.iadd, 1) := lwq_ok (e := (1216, .iadd)) (List.all_eq_true.mp lwA_16 _ (List.mem_of_getElem? (i := 34) rfl)) rfl
theorem dW_1217 : decode cL_law 1217 = .ok (.iaload, 1) := lwq_ok (e := (1217, .iaload)) (List.all_eq_true.mp lwA_16 _ (List.mem_of_getElem? (i := 35) rfl)) rfl
theorem dW_1218 : decode cL_law 1218 = .ok (.invokevirtual 149, 3) := lwq_ok (e := (1218, .invokevirtual 149)) (List.all_eq_true.mp lwA_16 _ (List.mem_of_getElem? (i := 36) rfl)) rfl
theorem dW_1221 : decode cL_law 1221 = .ok (.pop, 1) := lwq_ok (e := (1221, .pop)) (List.all_eq_true.mp lwA_16 _ (List.mem_of_getElem? (i := 37) rfl)) rfl
theorem dW_1222 : decode cL_law 1222 = .ok (.aload_n 2, 1) := lwq_ok (e := (1222, .aload_n 2)) (List.all_eq_true.mp lwA_16 _ (List.mem_of_getElem? (i := 38) rfl)) rfl
theorem dW_1223 : decode cL_law 1223 = .ok (.aload_n 0, 1) := lwq_ok (e := (1223, .aload_n 0)) (List.all_eq_true.mp lwA_16 _ (List.mem_of_getElem? (i := 39) rfl)) rfl
def lwL_17 : List (Nat × Instr) := [(1224, .iload 4), (1226, .iconst 1), (1227, .iadd), (1228, .iaload), (1229, .aload_n 0), (1230, .iload 4), (1232, .iconst 2), (1233, .iadd), (1234, .iaload), (1235, .invokevirtual 152), (1238, .pop), (1239, .goto 362), (1242, .aload_n 1), (1243, .aload_n 0), (1244, .iload 4), (1246, .iconst 1), (1247, .iadd), (1248, .iaload), (1249, .invokevirtual 153), (1252, .pop), (1253, .aload_n 2), (1254, .aload_n 0), (1255, .iload 4), (1257, .iconst 1), (1258, .iadd), (1259, .iaload), (1260, .invokevirtual 156), (1263, .pop), (1264, .goto 337), (1267, .aload_n 1), (1268, .aload_n 0), (1269, .iload 4), (1271, .iconst 1), (1272, .iadd), (1273, .iaload), (1274, .invokevirtual 157), (1277, .pop), (1278, .aload_n 2), (1279, .aload_n 0), (1280, .iload 4)]
set_option maxRecDepth 100000 in
theorem lwA_17 : lwL_17.all (fun e => xdec cL_law e && xtg e) = true := dW_top (by decide +kernel)
theorem dW_1224 : decode cL_law 1224 = .ok (.iload 4, 2) := lwq_ok (e := (1224, .iload 4)) (List.all_eq_true.mp lwA_17 _ (List.mem_of_getElem? (i := 0) rfl)) rfl
theorem dW_1226 : decode cL_law 1226 = .ok (.iconst 1, 1) := lwq_ok (e := (1226, .iconst 1)) (List.all_eq_true.mp lwA_17 _ (List.mem_of_getElem? (i := 1) rfl)) rfl
theorem dW_1227 : decode cL_law 1227 = .ok (.iadd, 1) := lwq_ok (e := (1227, .iadd)) (List.all_eq_true.mp lwA_17 _ (List.mem_of_getElem? (i := 2) rfl)) rfl
theorem dW_1228 : decode cL_law 1228 = .ok (.iaload, 1) := lwq_ok (e := (1228, .iaload)) (List.all_eq_true.mp lwA_17 _ (List.mem_of_getElem? (i := 3) rfl)) rfl
theorem dW_1229 : decode cL_law 1229 = .ok (.aload_n 0, 1) := lwq_ok (e := (1229, .aload_n 0)) (List.all_eq_true.mp lwA_17 _ (List.mem_of_getElem? (i := 4) rfl)) rfl
theorem dW_1230 : decode cL_law 1230 = .ok (.iload 4, 2) := lwq_ok (e := (1230, .iload 4)) (List.all_eq_true.mp lwA_17 _ (List.mem_of_getElem? (i := 5) rfl)) rfl
theorem dW_1232 : decode cL_law 1232 = .ok (.iconst 2, 1) := lwq_ok (e := (1232, .iconst 2)) (List.all_eq_true.mp lwA_17 _ (List.mem_of_getElem? (i := 6) rfl)) rfl
theorem dW_1233 : decode cL_law 1233 = .ok (.iadd, 1) := lwq_ok (e := (1233, .iadd)) (List.all_eq_true.mp lwA_17 _ (List.mem_of_getElem? (i := 7) rfl)) rfl
theorem dW_1234 : decode cL_law 1234 = .ok (.iaload, 1) := lwq_ok (e := (1234, .iaload)) (List.all_eq_true.mp lwA_17 _ (List.mem_of_getElem? (i := 8) rfl)) rfl
theorem dW_1235 : decode cL_law 1235 = .ok (.invokevirtual 152, 3) := lwq_ok (e := (1235, .invokevirtual 152)) (List.all_eq_true.mp lwA_17 _ (List.mem_of_getElem? (i := 9) rfl)) rfl
theorem dW_1238 : decode cL_law 1238 = .ok (.pop, 1) := lwq_ok (e := (1238, .pop)) (List.all_eq_true.mp lwA_17 _ (List.mem_of_getElem? (i := 10) rfl)) rfl
theorem dW_1239 : decode cL_law 1239 = .ok (.goto 362, 3) := lwq_ok (e := (1239, .goto 362)) (List.all_eq_true.mp lwA_17 _ (List.mem_of_getElem? (i := 11) rfl)) rfl
theorem dW_1242 : decode cL_law 1242 = .ok (.aload_n 1, 1) := lwq_ok (e := (1242, .aload_n 1)) (List.all_eq_true.mp lwA_17 _ (List.mem_of_getElem? (i := 12) rfl)) rfl
theorem dW_1243 : decode cL_law 1243 = .ok (.aload_n 0, 1) := lwq_ok (e := (1243, .aload_n 0)) (List.all_eq_true.mp lwA_17 _ (List.mem_of_getElem? (i := 13) rfl)) rfl
theorem dW_1244 : decode cL_law 1244 = .ok (.iload 4, 2) := lwq_ok (e := (1244, .iload 4)) (List.all_eq_true.mp lwA_17 _ (List.mem_of_getElem? (i := 14) rfl)) rfl
theorem dW_1246 : decode cL_law 1246 = .ok (.iconst 1, 1) := lwq_ok (e := (1246, .iconst 1)) (List.all_eq_true.mp lwA_17 _ (List.mem_of_getElem? (i := 15) rfl)) rfl
theorem dW_1247 : decode cL_law 1247 = .ok (.iadd, 1) := lwq_ok (e := (1247, .iadd)) (List.all_eq_true.mp lwA_17 _ (List.mem_of_getElem? (i := 16) rfl)) rfl
theorem dW_1248 : decode cL_law 1248 = .ok (.iaload, 1) := lwq_ok (e := (1248, .iaload)) (List.all_eq_true.mp lwA_17 _ (List.mem_of_getElem? (i := 17) rfl)) rfl
theorem dW_1249 : decode cL_law 1249 = .ok (.invokevirtual 153, 3) := lwq_ok (e := (1249, .invokevirtual 153)) (List.all_eq_true.mp lwA_17 _ (List.mem_of_getElem? (i := 18) rfl)) rfl
theorem dW_1252 : decode cL_law 1252 = .ok (.pop, 1) := lwq_ok (e := (1252, .pop)) (List.all_eq_true.mp lwA_17 _ (List.mem_of_getElem? (i := 19) rfl)) rfl
theorem dW_1253 : decode cL_law 1253 = .ok (.aload_n 2, 1) := lwq_ok (e := (1253, .aload_n 2)) (List.all_eq_true.mp lwA_17 _ (List.mem_of_getElem? (i := 20) rfl)) rfl
theorem dW_1254 : decode cL_law 1254 = .ok (.aload_n 0, 1) := lwq_ok (e := (1254, .aload_n 0)) (List.all_eq_true.mp lwA_17 _ (List.mem_of_getElem? (i := 21) rfl)) rfl
theorem dW_1255 : decode cL_law 1255 = .ok (.iload 4, 2) := lwq_ok (e := (1255, .iload 4)) (List.all_eq_true.mp lwA_17 _ (List.mem_of_getElem? (i := 22) rfl)) rfl
theorem dW_1257 : decode cL_law 1257 = .ok (.iconst 1, 1) := lwq_ok (e := (1257, .iconst 1)) (List.all_eq_true.mp lwA_17 _ (List.mem_of_getElem? (i := 23) rfl)) rfl
theorem dW_1258 : decode cL_law 1258 = .ok (.iadd, 1) := lwq_ok (e := (1258, .iadd)) (List.all_eq_true.mp lwA_17 _ (List.mem_of_getElem? (i := 24) rfl)) rfl
theorem dW_1259 : decode cL_law 1259 = .ok (.iaload, 1) := lwq_ok (e := (1259, .iaload)) (List.all_eq_true.mp lwA_17 _ (List.mem_of_getElem? (i := 25) rfl)) rfl
theorem dW_1260 : decode cL_law 1260 = .ok (.invokevirtual 156, 3) := lwq_ok (e := (1260, .invokevirtual 156)) (List.all_eq_true.mp lwA_17 _ (List.mem_of_getElem? (i := 26) rfl)) rfl
theorem dW_1263 : decode cL_law 1263 = .ok (.pop, 1) := lwq_ok (e := (1263, .pop)) (List.all_eq_true.mp lwA_17 _ (List.mem_of_getElem? (i := 27) rfl)) rfl
theorem dW_1264 : decode cL_law 1264 = .ok (.goto 337, 3) := lwq_ok (e := (1264, .goto 337)) (List.all_eq_true.mp lwA_17 _ (List.mem_of_getElem? (i := 28) rfl)) rfl
theorem dW_1267 : decode cL_law 1267 = .ok (.aload_n 1, 1) := lwq_ok (e := (1267, .aload_n 1)) (List.all_eq_true.mp lwA_17 _ (List.mem_of_getElem? (i := 29) rfl)) rfl
theorem dW_1268 : decode cL_law 1268 = .ok (.aload_n 0, 1) := lwq_ok (e := (1268, .aload_n 0)) (List.all_eq_true.mp lwA_17 _ (List.mem_of_getElem? (i := 30) rfl)) rfl
theorem dW_1269 : decode cL_law 1269 = .ok (.iload 4, 2) := lwq_ok (e := (1269, .iload 4)) (List.all_eq_true.mp lwA_17 _ (List.mem_of_getElem? (i := 31) rfl)) rfl
theorem dW_1271 : decode cL_law 1271 = .ok (.iconst 1, 1) := lwq_ok (e := (1271, .iconst 1)) (List.all_eq_true.mp lwA_17 _ (List.mem_of_getElem? (i := 32) rfl)) rfl
theorem dW_1272 : decode cL_law 1272 = .ok (.iadd, 1) := lwq_ok (e := (1272, .iadd)) (List.all_eq_true.mp lwA_17 _ (List.mem_of_getElem? (i := 33) rfl)) rfl
theorem dW_1273 : decode cL_law 1273 = .ok (.iaload, 1) := lwq_ok (e := (1273, .iaload)) (List.all_eq_true.mp lwA_17 _ (List.mem_of_getElem? (i := 34) rfl)) rfl
theorem dW_1274 : decode cL_law 1274 = .ok (.invokevirtual 157, 3) := lwq_ok (e := (1274, .invokevirtual 157)) (List.all_eq_true.mp lwA_17 _ (List.mem_of_getElem? (i := 35) rfl)) rfl
theorem dW_1277 : decode cL_law 1277 = .ok (.pop, 1) := lwq_ok (e := (1277, .pop)) (List.all_eq_true.mp lwA_17 _ (List.mem_of_getElem? (i := 36) rfl)) rfl
theorem dW_1278 : decode cL_law 1278 = .ok (.aload_n 2, 1) := lwq_ok (e := (1278, .aload_n 2)) (List.all_eq_true.mp lwA_17 _ (List.mem_of_getElem? (i := 37) rfl)) rfl
theorem dW_1279 : decode cL_law 1279 = .ok (.aload_n 0, 1) := lwq_ok (e := (1279, .aload_n 0)) (List.all_eq_true.mp lwA_17 _ (List.mem_of_getElem? (i := 38) rfl)) rfl
theorem dW_1280 : decode cL_law 1280 = .ok (.iload 4, 2) := lwq_ok (e := (1280, .iload 4)) (List.all_eq_true.mp lwA_17 _ (List.mem_of_getElem? (i := 39) rfl)) rfl
def lwL_18 : List (Nat × Instr) := [(1282, .iconst 1), (1283, .iadd), (1284, .iaload), (1285, .invokevirtual 160), (1288, .pop), (1289, .goto 312), (1292, .aload_n 1), (1293, .aload_n 0), (1294, .iload 4), (1296, .iconst 1), (1297, .iadd), (1298, .iaload), (1299, .aload_n 0), (1300, .iload 4), (1302, .iconst 2), (1303, .iadd), (1304, .iaload), (1305, .aload_n 0), (1306, .iload 4), (1308, .iconst 3), (1309, .iadd), (1310, .iaload), (1311, .aload_n 0), (1312, .iload 4), (1314, .iconst 4), (1315, .iadd), (1316, .iaload), (1317, .aload_n 0), (1318, .iload 4), (1320, .iconst 5), (1321, .iadd), (1322, .iaload), (1323, .invokevirtual 161), (1326, .pop), (1327, .aload_n 2), (1328, .aload_n 0), (1329, .iload 4), (1331, .iconst 1), (1332, .iadd), (1333, .iaload)]
set_option maxRecDepth 100000 in
theorem lwA_18 : lwL_18.all (fun e => xdec cL_law e && xtg e) = true := dW_top (by decide +kernel)
theorem dW_1282 : decode cL_law 1282 = .ok (.iconst 1, 1) := lwq_ok (e := (1282, .iconst 1)) (List.all_eq_true.mp lwA_18 _ (List.mem_of_getElem? (i := 0) rfl)) rfl
theorem dW_1283 : decode cL_law 1283 = .ok (.iadd, 1) := lwq_ok (e := (1283, .iadd)) (List.all_eq_true.mp lwA_18 _ (List.mem_of_getElem? (i := 1) rfl)) rfl
theorem dW_1284 : decode cL_law 1284 = .ok (.iaload, 1) := lwq_ok (e := (1284, .iaload)) (List.all_eq_true.mp lwA_18 _ (List.mem_of_getElem? (i := 2) rfl)) rfl
theorem dW_1285 : decode cL_law 1285 = .ok (.invokevirtual 160, 3) := lwq_ok (e := (1285, .invokevirtual 160)) (List.all_eq_true.mp lwA_18 _ (List.mem_of_getElem? (i := 3) rfl)) rfl
theorem dW_1288 : decode cL_law 1288 = .ok (.pop, 1) := lwq_ok (e := (1288, .pop)) (List.all_eq_true.mp lwA_18 _ (List.mem_of_getElem? (i := 4) rfl)) rfl
theorem dW_1289 : decode cL_law 1289 = .ok (.goto 312, 3) := lwq_ok (e := (1289, .goto 312)) (List.all_eq_true.mp lwA_18 _ (List.mem_of_getElem? (i := 5) rfl)) rfl
theorem dW_1292 : decode cL_law 1292 = .ok (.aload_n 1, 1) := lwq_ok (e := (1292, .aload_n 1)) (List.all_eq_true.mp lwA_18 _ (List.mem_of_getElem? (i := 6) rfl)) rfl
theorem dW_1293 : decode cL_law 1293 = .ok (.aload_n 0, 1) := lwq_ok (e := (1293, .aload_n 0)) (List.all_eq_true.mp lwA_18 _ (List.mem_of_getElem? (i := 7) rfl)) rfl
theorem dW_1294 : decode cL_law 1294 = .ok (.iload 4, 2) := lwq_ok (e := (1294, .iload 4)) (List.all_eq_true.mp lwA_18 _ (List.mem_of_getElem? (i := 8) rfl)) rfl
theorem dW_1296 : decode cL_law 1296 = .ok (.iconst 1, 1) := lwq_ok (e := (1296, .iconst 1)) (List.all_eq_true.mp lwA_18 _ (List.mem_of_getElem? (i := 9) rfl)) rfl
theorem dW_1297 : decode cL_law 1297 = .ok (.iadd, 1) := lwq_ok (e := (1297, .iadd)) (List.all_eq_true.mp lwA_18 _ (List.mem_of_getElem? (i := 10) rfl)) rfl
theorem dW_1298 : decode cL_law 1298 = .ok (.iaload, 1) := lwq_ok (e := (1298, .iaload)) (List.all_eq_true.mp lwA_18 _ (List.mem_of_getElem? (i := 11) rfl)) rfl
theorem dW_1299 : decode cL_law 1299 = .ok (.aload_n 0, 1) := lwq_ok (e := (1299, .aload_n 0)) (List.all_eq_true.mp lwA_18 _ (List.mem_of_getElem? (i := 12) rfl)) rfl
theorem dW_1300 : decode cL_law 1300 = .ok (.iload 4, 2) := lwq_ok (e := (1300, .iload 4)) (List.all_eq_true.mp lwA_18 _ (List.mem_of_getElem? (i := 13) rfl)) rfl
theorem dW_1302 : decode cL_law 1302 = .ok (.iconst 2, 1) := lwq_ok (e := (1302, .iconst 2)) (List.all_eq_true.mp lwA_18 _ (List.mem_of_getElem? (i := 14) rfl)) rfl
theorem dW_1303 : decode cL_law 1303 = .ok (.iadd, 1) := lwq_ok (e := (1303, .iadd)) (List.all_eq_true.mp lwA_18 _ (List.mem_of_getElem? (i := 15) rfl)) rfl
theorem dW_1304 : decode cL_law 1304 = .ok (.iaload, 1) := lwq_ok (e := (1304, .iaload)) (List.all_eq_true.mp lwA_18 _ (List.mem_of_getElem? (i := 16) rfl)) rfl
theorem dW_1305 : decode cL_law 1305 = .ok (.aload_n 0, 1) := lwq_ok (e := (1305, .aload_n 0)) (List.all_eq_true.mp lwA_18 _ (List.mem_of_getElem? (i := 17) rfl)) rfl
theorem dW_1306 : decode cL_law 1306 = .ok (.iload 4, 2) := lwq_ok (e := (1306, .iload 4)) (List.all_eq_true.mp lwA_18 _ (List.mem_of_getElem? (i := 18) rfl)) rfl
theorem dW_1308 : decode cL_law 1308 = .ok (.iconst 3, 1) := lwq_ok (e := (1308, .iconst 3)) (List.all_eq_true.mp lwA_18 _ (List.mem_of_getElem? (i := 19) rfl)) rfl
theorem dW_1309 : decode cL_law 1309 = .ok (.iadd, 1) := lwq_ok (e := (1309, .iadd)) (List.all_eq_true.mp lwA_18 _ (List.mem_of_getElem? (i := 20) rfl)) rfl
theorem dW_1310 : decode cL_law 1310 = .ok (.iaload, 1) := lwq_ok (e := (1310, .iaload)) (List.all_eq_true.mp lwA_18 _ (List.mem_of_getElem? (i := 21) rfl)) rfl
theorem dW_1311 : decode cL_law 1311 = .ok (.aload_n 0, 1) := lwq_ok (e := (1311, .aload_n 0)) (List.all_eq_true.mp lwA_18 _ (List.mem_of_getElem? (i := 22) rfl)) rfl
theorem dW_1312 : decode cL_law 1312 = .ok (.iload 4, 2) := lwq_ok (e := (1312, .iload 4)) (List.all_eq_true.mp lwA_18 _ (List.mem_of_getElem? (i := 23) rfl)) rfl
theorem dW_1314 : decode cL_law 1314 = .ok (.iconst 4, 1) := lwq_ok (e := (1314, .iconst 4)) (List.all_eq_true.mp lwA_18 _ (List.mem_of_getElem? (i := 24) rfl)) rfl
theorem dW_1315 : decode cL_law 1315 = .ok (.iadd, 1) := lwq_ok (e := (1315, .iadd)) (List.all_eq_true.mp lwA_18 _ (List.mem_of_getElem? (i := 25) rfl)) rfl
theorem dW_1316 : decode cL_law 1316 = .ok (.iaload, 1) := lwq_ok (e := (1316, .iaload)) (List.all_eq_true.mp lwA_18 _ (List.mem_of_getElem? (i := 26) rfl)) rfl
theorem dW_1317 : decode cL_law 1317 = .ok (.aload_n 0, 1) := lwq_ok (e := (1317, .aload_n 0)) (List.all_eq_true.mp lwA_18 _ (List.mem_of_getElem? (i := 27) rfl)) rfl
theorem dW_1318 : decode cL_law 1318 = .ok (.iload 4, 2) := lwq_ok (e := (1318, .iload 4)) (List.all_eq_true.mp lwA_18 _ (List.mem_of_getElem? (i := 28) rfl)) rfl
theorem dW_1320 : decode cL_law 1320 = .ok (.iconst 5, 1) := lwq_ok (e := (1320, .iconst 5)) (List.all_eq_true.mp lwA_18 _ (List.mem_of_getElem? (i := 29) rfl)) rfl
theorem dW_1321 : decode cL_law 1321 = .ok (.iadd, 1) := lwq_ok (e := (1321, .iadd)) (List.all_eq_true.mp lwA_18 _ (List.mem_of_getElem? (i := 30) rfl)) rfl
theorem dW_1322 : decode cL_law 1322 = .ok (.iaload, 1) := lwq_ok (e := (1322, .iaload)) (List.all_eq_true.mp lwA_18 _ (List.mem_of_getElem? (i := 31) rfl)) rfl
theorem dW_1323 : decode cL_law 1323 = .ok (.invokevirtual 161, 3) := lwq_ok (e := (1323, .invokevirtual 161)) (List.all_eq_true.mp lwA_18 _ (List.mem_of_getElem? (i := 32) rfl)) rfl
theorem dW_1326 : decode cL_law 1326 = .ok (.pop, 1) := lwq_ok (e := (1326, .pop)) (List.all_eq_true.mp lwA_18 _ (List.mem_of_getElem? (i := 33) rfl)) rfl
theorem dW_1327 : decode cL_law 1327 = .ok (.aload_n 2, 1) := lwq_ok (e := (1327, .aload_n 2)) (List.all_eq_true.mp lwA_18 _ (List.mem_of_getElem? (i := 34) rfl)) rfl
theorem dW_1328 : decode cL_law 1328 = .ok (.aload_n 0, 1) := lwq_ok (e := (1328, .aload_n 0)) (List.all_eq_true.mp lwA_18 _ (List.mem_of_getElem? (i := 35) rfl)) rfl
theorem dW_1329 : decode cL_law 1329 = .ok (.iload 4, 2) := lwq_ok (e := (1329, .iload 4)) (List.all_eq_true.mp lwA_18 _ (List.mem_of_getElem? (i := 36) rfl)) rfl
theorem dW_1331 : decode cL_law 1331 = .ok (.iconst 1, 1) := lwq_ok (e := (1331, .iconst 1)) (List.all_eq_true.mp lwA_18 _ (List.mem_of_getElem? (i := 37) rfl)) rfl
theorem dW_1332 : decode cL_law 1332 = .ok (.iadd, 1) := lwq_ok (e := (1332, .iadd)) (List.all_eq_true.mp lwA_18 _ (List.mem_of_getElem? (i := 38) rfl)) rfl
theorem dW_1333 : decode cL_law 1333 = .ok (.iaload, 1) := lwq_ok (e := (1333, .iaload)) (List.all_eq_true.mp lwA_18 _ (List.mem_of_getElem? (i := 39) rfl)) rfl
def lwL_19 : List (Nat × Instr) := [(1334, .aload_n 0), (1335, .iload 4), (1337, .iconst 2), (1338, .iadd), (1339, .iaload), (1340, .aload_n 0), (1341, .iload 4), (1343, .iconst 3), (1344, .iadd), (1345, .iaload), (1346, .aload_n 0), (1347, .iload 4), (1349, .iconst 4), (1350, .iadd), (1351, .iaload), (1352, .aload_n 0), (1353, .iload 4), (1355, .iconst 5), (1356, .iadd), (1357, .iaload), (1358, .invokevirtual 164), (1361, .pop), (1362, .goto 239), (1365, .aload_n 1), (1366, .aload_n 0), (1367, .iload 4), (1369, .iconst 1), (1370, .iadd), (1371, .iaload), (1372, .aload_n 0), (1373, .iload 4), (1375, .iconst 2), (1376, .iadd), (1377, .iaload), (1378, .aload_n 0), (1379, .iload 4), (1381, .iconst 3), (1382, .iadd), (1383, .iaload), (1384, .invokevirtual 165)]
set_option maxRecDepth 100000 in
theorem lwA_19 : lwL_19.all (fun e => xdec cL_law e && xtg e) = true := dW_top (by decide +kernel)
theorem dW_1334 : decode cL_law 1334 = .ok (.aload_n 0, 1) := lwq_ok (e := (1334, .aload_n 0)) (List.all_eq_true.mp lwA_19 _ (List.mem_of_getElem? (i := 0) rfl)) rfl
theorem dW_1335 : decode cL_law 1335 = .ok (.iload 4, 2) := lwq_ok (e := (1335, .iload 4)) (List.all_eq_true.mp lwA_19 _ (List.mem_of_getElem? (i := 1) rfl)) rfl
theorem dW_1337 : decode cL_law 1337 = .ok (.iconst 2, 1) := lwq_ok (e := (1337, .iconst 2)) (List.all_eq_true.mp lwA_19 _ (List.mem_of_getElem? (i := 2) rfl)) rfl
theorem dW_1338 : decode cL_law 1338 = .ok (.iadd, 1) := lwq_ok (e := (1338, .iadd)) (List.all_eq_true.mp lwA_19 _ (List.mem_of_getElem? (i := 3) rfl)) rfl
theorem dW_1339 : decode cL_law 1339 = .ok (.iaload, 1) := lwq_ok (e := (1339, .iaload)) (List.all_eq_true.mp lwA_19 _ (List.mem_of_getElem? (i := 4) rfl)) rfl
theorem dW_1340 : decode cL_law 1340 = .ok (.aload_n 0, 1) := lwq_ok (e := (1340, .aload_n 0)) (List.all_eq_true.mp lwA_19 _ (List.mem_of_getElem? (i := 5) rfl)) rfl
theorem dW_1341 : decode cL_law 1341 = .ok (.iload 4, 2) := lwq_ok (e := (1341, .iload 4)) (List.all_eq_true.mp lwA_19 _ (List.mem_of_getElem? (i := 6) rfl)) rfl
theorem dW_1343 : decode cL_law 1343 = .ok (.iconst 3, 1) := lwq_ok (e := (1343, .iconst 3)) (List.all_eq_true.mp lwA_19 _ (List.mem_of_getElem? (i := 7) rfl)) rfl
theorem dW_1344 : decode cL_law 1344 = .ok (.iadd, 1) := lwq_ok (e := (1344, .iadd)) (List.all_eq_true.mp lwA_19 _ (List.mem_of_getElem? (i := 8) rfl)) rfl
theorem dW_1345 : decode cL_law 1345 = .ok (.iaload, 1) := lwq_ok (e := (1345, .iaload)) (List.all_eq_true.mp lwA_19 _ (List.mem_of_getElem? (i := 9) rfl)) rfl
theorem dW_1346 : decode cL_law 1346 = .ok (.aload_n 0, 1) := lwq_ok (e := (1346, .aload_n 0)) (List.all_eq_true.mp lwA_19 _ (List.mem_of_getElem? (i := 10) rfl)) rfl
theorem dW_1347 : decode cL_law 1347 = .ok (.iload 4, 2) := lwq_ok (e := (1347, .iload 4)) (List.all_eq_true.mp lwA_19 _ (List.mem_of_getElem? (i := 11) rfl)) rfl
theorem dW_1349 : decode cL_law 1349 = .ok (.iconst 4, 1) := lwq_ok (e := (1349, .iconst 4)) (List.all_eq_true.mp lwA_19 _ (List.mem_of_getElem? (i := 12) rfl)) rfl
theorem dW_1350 : decode cL_law 1350 = .ok (.iadd, 1) := lwq_ok (e := (1350, .iadd)) (List.all_eq_true.mp lwA_19 _ (List.mem_of_getElem? (i := 13) rfl)) rfl
theorem dW_1351 : decode cL_law 1351 = .ok (.iaload, 1) := lwq_ok (e := (1351, .iaload)) (List.all_eq_true.mp lwA_19 _ (List.mem_of_getElem? (i := 14) rfl)) rfl
theorem dW_1352 : decode cL_law 1352 = .ok (.aload_n 0, 1) := lwq_ok (e := (1352, .aload_n 0)) (List.all_eq_true.mp lwA_19 _ (List.mem_of_getElem? (i := 15) rfl)) rfl
theorem dW_1353 : decode cL_law 1353 = .ok (.iload 4, 2) := lwq_ok (e := (1353, .iload 4)) (List.all_eq_true.mp lwA_19 _ (List.mem_of_getElem? (i := 16) rfl)) rfl
theorem dW_1355 : decode cL_law 1355 = .ok (.iconst 5, 1) := lwq_ok (e := (1355, .iconst 5)) (List.all_eq_true.mp lwA_19 _ (List.mem_of_getElem? (i := 17) rfl)) rfl
theorem dW_1356 : decode cL_law 1356 = .ok (.iadd, 1) := lwq_ok (e := (1356, .iadd)) (List.all_eq_true.mp lwA_19 _ (List.mem_of_getElem? (i := 18) rfl)) rfl
theorem dW_1357 : decode cL_law 1357 = .ok (.iaload, 1) := lwq_ok (e := (1357, .iaload)) (List.all_eq_true.mp lwA_19 _ (List.mem_of_getElem? (i := 19) rfl)) rfl
theorem dW_1358 : decode cL_law 1358 = .ok (.invokevirtual 164, 3) := lwq_ok (e := (1358, .invokevirtual 164)) (List.all_eq_true.mp lwA_19 _ (List.mem_of_getElem? (i := 20) rfl)) rfl
theorem dW_1361 : decode cL_law 1361 = .ok (.pop, 1) := lwq_ok (e := (1361, .pop)) (List.all_eq_true.mp lwA_19 _ (List.mem_of_getElem? (i := 21) rfl)) rfl
theorem dW_1362 : decode cL_law 1362 = .ok (.goto 239, 3) := lwq_ok (e := (1362, .goto 239)) (List.all_eq_true.mp lwA_19 _ (List.mem_of_getElem? (i := 22) rfl)) rfl
theorem dW_1365 : decode cL_law 1365 = .ok (.aload_n 1, 1) := lwq_ok (e := (1365, .aload_n 1)) (List.all_eq_true.mp lwA_19 _ (List.mem_of_getElem? (i := 23) rfl)) rfl
theorem dW_1366 : decode cL_law 1366 = .ok (.aload_n 0, 1) := lwq_ok (e := (1366, .aload_n 0)) (List.all_eq_true.mp lwA_19 _ (List.mem_of_getElem? (i := 24) rfl)) rfl
theorem dW_1367 : decode cL_law 1367 = .ok (.iload 4, 2) := lwq_ok (e := (1367, .iload 4)) (List.all_eq_true.mp lwA_19 _ (List.mem_of_getElem? (i := 25) rfl)) rfl
theorem dW_1369 : decode cL_law 1369 = .ok (.iconst 1, 1) := lwq_ok (e := (1369, .iconst 1)) (List.all_eq_true.mp lwA_19 _ (List.mem_of_getElem? (i := 26) rfl)) rfl
theorem dW_1370 : decode cL_law 1370 = .ok (.iadd, 1) := lwq_ok (e := (1370, .iadd)) (List.all_eq_true.mp lwA_19 _ (List.mem_of_getElem? (i := 27) rfl)) rfl
theorem dW_1371 : decode cL_law 1371 = .ok (.iaload, 1) := lwq_ok (e := (1371, .iaload)) (List.all_eq_true.mp lwA_19 _ (List.mem_of_getElem? (i := 28) rfl)) rfl
theorem dW_1372 : decode cL_law 1372 = .ok (.aload_n 0, 1) := lwq_ok (e := (1372, .aload_n 0)) (List.all_eq_true.mp lwA_19 _ (List.mem_of_getElem? (i := 29) rfl)) rfl
theorem dW_1373 : decode cL_law 1373 = .ok (.iload 4, 2) := lwq_ok (e := (1373, .iload 4)) (List.all_eq_true.mp lwA_19 _ (List.mem_of_getElem? (i := 30) rfl)) rfl
theorem dW_1375 : decode cL_law 1375 = .ok (.iconst 2, 1) := lwq_ok (e := (1375, .iconst 2)) (List.all_eq_true.mp lwA_19 _ (List.mem_of_getElem? (i := 31) rfl)) rfl
theorem dW_1376 : decode cL_law 1376 = .ok (.iadd, 1) := lwq_ok (e := (1376, .iadd)) (List.all_eq_true.mp lwA_19 _ (List.mem_of_getElem? (i := 32) rfl)) rfl
theorem dW_1377 : decode cL_law 1377 = .ok (.iaload, 1) := lwq_ok (e := (1377, .iaload)) (List.all_eq_true.mp lwA_19 _ (List.mem_of_getElem? (i := 33) rfl)) rfl
theorem dW_1378 : decode cL_law 1378 = .ok (.aload_n 0, 1) := lwq_ok (e := (1378, .aload_n 0)) (List.all_eq_true.mp lwA_19 _ (List.mem_of_getElem? (i := 34) rfl)) rfl
theorem dW_1379 : decode cL_law 1379 = .ok (.iload 4, 2) := lwq_ok (e := (1379, .iload 4)) (List.all_eq_true.mp lwA_19 _ (List.mem_of_getElem? (i := 35) rfl)) rfl
theorem dW_1381 : decode cL_law 1381 = .ok (.iconst 3, 1) := lwq_ok (e := (1381, .iconst 3)) (List.all_eq_true.mp lwA_19 _ (List.mem_of_getElem? (i := 36) rfl)) rfl
theorem dW_1382 : decode cL_law 1382 = .ok (.iadd, 1) := lwq_ok (e := (1382, .iadd)) (List.all_eq_true.mp lwA_19 _ (List.mem_of_getElem? (i := 37) rfl)) rfl
theorem dW_1383 : decode cL_law 1383 = .ok (.iaload, 1) := lwq_ok (e := (1383, .iaload)) (List.all_eq_true.mp lwA_19 _ (List.mem_of_getElem? (i := 38) rfl)) rfl
theorem dW_1384 : decode cL_law 1384 = .ok (.invokevirtual 165, 3) := lwq_ok (e := (1384, .invokevirtual 165)) (List.all_eq_true.mp lwA_19 _ (List.mem_of_getElem? (i := 39) rfl)) rfl
def lwL_20 : List (Nat × Instr) := [(1387, .pop), (1388, .aload_n 2), (1389, .aload_n 0), (1390, .iload 4), (1392, .iconst 1), (1393, .iadd), (1394, .iaload), (1395, .aload_n 0), (1396, .iload 4), (1398, .iconst 2), (1399, .iadd), (1400, .iaload), (1401, .aload_n 0), (1402, .iload 4), (1404, .iconst 3), (1405, .iadd), (1406, .iaload), (1407, .invokevirtual 169), (1410, .pop), (1411, .goto 190), (1414, .aload_n 1), (1415, .aload_n 0), (1416, .iload 4), (1418, .iconst 1), (1419, .iadd), (1420, .iaload), (1421, .aload_n 0), (1422, .iload 4), (1424, .iconst 2), (1425, .iadd), (1426, .iaload), (1427, .invokevirtual 170), (1430, .pop), (1431, .aload_n 2), (1432, .aload_n 0), (1433, .iload 4), (1435, .iconst 1), (1436, .iadd), (1437, .iaload), (1438, .aload_n 0)]
set_option maxRecDepth 100000 in
theorem lwA_20 : lwL_20.all (fun e => xdec cL_law e && xtg e) = true := dW_top (by decide +kernel)
theorem dW_1387 : decode cL_law 1387 = .ok (.pop, 1) := lwq_ok (e := (1387, .pop)) (List.all_eq_true.mp lwA_20 _ (List.mem_of_getElem? (i := 0) rfl)) rfl
theorem dW_1388 : decode cL_law 1388 = .ok (.aload_n 2, 1) := lwq_ok (e := (1388, .aload_n 2)) (List.all_eq_true.mp lwA_20 _ (List.mem_of_getElem? (i := 1) rfl)) rfl
theorem dW_1389 : decode cL_law 1389 = .ok (.aload_n 0, 1) := lwq_ok (e := (1389, .aload_n 0)) (List.all_eq_true.mp lwA_20 _ (List.mem_of_getElem? (i := 2) rfl)) rfl
theorem dW_1390 : decode cL_law 1390 = .ok (.iload 4, 2) := lwq_ok (e := (1390, .iload 4)) (List.all_eq_true.mp lwA_20 _ (List.mem_of_getElem? (i := 3) rfl)) rfl
theorem dW_1392 : decode cL_law 1392 = .ok (.iconst 1, 1) := lwq_ok (e := (1392, .iconst 1)) (List.all_eq_true.mp lwA_20 _ (List.mem_of_getElem? (i := 4) rfl)) rfl
theorem dW_1393 : decode cL_law 1393 = .ok (.iadd, 1) := lwq_ok (e := (1393, .iadd)) (List.all_eq_true.mp lwA_20 _ (List.mem_of_getElem? (i := 5) rfl)) rfl
theorem dW_1394 : decode cL_law 1394 = .ok (.iaload, 1) := lwq_ok (e := (1394, .iaload)) (List.all_eq_true.mp lwA_20 _ (List.mem_of_getElem? (i := 6) rfl)) rfl
theorem dW_1395 : decode cL_law 1395 = .ok (.aload_n 0, 1) := lwq_ok (e := (1395, .aload_n 0)) (List.all_eq_true.mp lwA_20 _ (List.mem_of_getElem? (i := 7) rfl)) rfl
theorem dW_1396 : decode cL_law 1396 = .ok (.iload 4, 2) := lwq_ok (e := (1396, .iload 4)) (List.all_eq_true.mp lwA_20 _ (List.mem_of_getElem? (i := 8) rfl)) rfl
theorem dW_1398 : decode cL_law 1398 = .ok (.iconst 2, 1) := lwq_ok (e := (1398, .iconst 2)) (List.all_eq_true.mp lwA_20 _ (List.mem_of_getElem? (i := 9) rfl)) rfl
theorem dW_1399 : decode cL_law 1399 = .ok (.iadd, 1) := lwq_ok (e := (1399, .iadd)) (List.all_eq_true.mp lwA_20 _ (List.mem_of_getElem? (i := 10) rfl)) rfl
theorem dW_1400 : decode cL_law 1400 = .ok (.iaload, 1) := lwq_ok (e := (1400, .iaload)) (List.all_eq_true.mp lwA_20 _ (List.mem_of_getElem? (i := 11) rfl)) rfl
theorem dW_1401 : decode cL_law 1401 = .ok (.aload_n 0, 1) := lwq_ok (e := (1401, .aload_n 0)) (List.all_eq_true.mp lwA_20 _ (List.mem_of_getElem? (i := 12) rfl)) rfl
theorem dW_1402 : decode cL_law 1402 = .ok (.iload 4, 2) := lwq_ok (e := (1402, .iload 4)) (List.all_eq_true.mp lwA_20 _ (List.mem_of_getElem? (i := 13) rfl)) rfl
theorem dW_1404 : decode cL_law 1404 = .ok (.iconst 3, 1) := lwq_ok (e := (1404, .iconst 3)) (List.all_eq_true.mp lwA_20 _ (List.mem_of_getElem? (i := 14) rfl)) rfl
theorem dW_1405 : decode cL_law 1405 = .ok (.iadd, 1) := lwq_ok (e := (1405, .iadd)) (List.all_eq_true.mp lwA_20 _ (List.mem_of_getElem? (i := 15) rfl)) rfl
theorem dW_1406 : decode cL_law 1406 = .ok (.iaload, 1) := lwq_ok (e := (1406, .iaload)) (List.all_eq_true.mp lwA_20 _ (List.mem_of_getElem? (i := 16) rfl)) rfl
theorem dW_1407 : decode cL_law 1407 = .ok (.invokevirtual 169, 3) := lwq_ok (e := (1407, .invokevirtual 169)) (List.all_eq_true.mp lwA_20 _ (List.mem_of_getElem? (i := 17) rfl)) rfl
theorem dW_1410 : decode cL_law 1410 = .ok (.pop, 1) := lwq_ok (e := (1410, .pop)) (List.all_eq_true.mp lwA_20 _ (List.mem_of_getElem? (i := 18) rfl)) rfl
theorem dW_1411 : decode cL_law 1411 = .ok (.goto 190, 3) := lwq_ok (e := (1411, .goto 190)) (List.all_eq_true.mp lwA_20 _ (List.mem_of_getElem? (i := 19) rfl)) rfl
theorem dW_1414 : decode cL_law 1414 = .ok (.aload_n 1, 1) := lwq_ok (e := (1414, .aload_n 1)) (List.all_eq_true.mp lwA_20 _ (List.mem_of_getElem? (i := 20) rfl)) rfl
theorem dW_1415 : decode cL_law 1415 = .ok (.aload_n 0, 1) := lwq_ok (e := (1415, .aload_n 0)) (List.all_eq_true.mp lwA_20 _ (List.mem_of_getElem? (i := 21) rfl)) rfl
theorem dW_1416 : decode cL_law 1416 = .ok (.iload 4, 2) := lwq_ok (e := (1416, .iload 4)) (List.all_eq_true.mp lwA_20 _ (List.mem_of_getElem? (i := 22) rfl)) rfl
theorem dW_1418 : decode cL_law 1418 = .ok (.iconst 1, 1) := lwq_ok (e := (1418, .iconst 1)) (List.all_eq_true.mp lwA_20 _ (List.mem_of_getElem? (i := 23) rfl)) rfl
theorem dW_1419 : decode cL_law 1419 = .ok (.iadd, 1) := lwq_ok (e := (1419, .iadd)) (List.all_eq_true.mp lwA_20 _ (List.mem_of_getElem? (i := 24) rfl)) rfl
theorem dW_1420 : decode cL_law 1420 = .ok (.iaload, 1) := lwq_ok (e := (1420, .iaload)) (List.all_eq_true.mp lwA_20 _ (List.mem_of_getElem? (i := 25) rfl)) rfl
theorem dW_1421 : decode cL_law 1421 = .ok (.aload_n 0, 1) := lwq_ok (e := (1421, .aload_n 0)) (List.all_eq_true.mp lwA_20 _ (List.mem_of_getElem? (i := 26) rfl)) rfl
theorem dW_1422 : decode cL_law 1422 = .ok (.iload 4, 2) := lwq_ok (e := (1422, .iload 4)) (List.all_eq_true.mp lwA_20 _ (List.mem_of_getElem? (i := 27) rfl)) rfl
theorem dW_1424 : decode cL_law 1424 = .ok (.iconst 2, 1) := lwq_ok (e := (1424, .iconst 2)) (List.all_eq_true.mp lwA_20 _ (List.mem_of_getElem? (i := 28) rfl)) rfl
theorem dW_1425 : decode cL_law 1425 = .ok (.iadd, 1) := lwq_ok (e := (1425, .iadd)) (List.all_eq_true.mp lwA_20 _ (List.mem_of_getElem? (i := 29) rfl)) rfl
theorem dW_1426 : decode cL_law 1426 = .ok (.iaload, 1) := lwq_ok (e := (1426, .iaload)) (List.all_eq_true.mp lwA_20 _ (List.mem_of_getElem? (i := 30) rfl)) rfl
theorem dW_1427 : decode cL_law 1427 = .ok (.invokevirtual 170, 3) := lwq_ok (e := (1427, .invokevirtual 170)) (List.all_eq_true.mp lwA_20 _ (List.mem_of_getElem? (i := 31) rfl)) rfl
theorem dW_1430 : decode cL_law 1430 = .ok (.pop, 1) := lwq_ok (e := (1430, .pop)) (List.all_eq_true.mp lwA_20 _ (List.mem_of_getElem? (i := 32) rfl)) rfl
theorem dW_1431 : decode cL_law 1431 = .ok (.aload_n 2, 1) := lwq_ok (e := (1431, .aload_n 2)) (List.all_eq_true.mp lwA_20 _ (List.mem_of_getElem? (i := 33) rfl)) rfl
theorem dW_1432 : decode cL_law 1432 = .ok (.aload_n 0, 1) := lwq_ok (e := (1432, .aload_n 0)) (List.all_eq_true.mp lwA_20 _ (List.mem_of_getElem? (i := 34) rfl)) rfl
theorem dW_1433 : decode cL_law 1433 = .ok (.iload 4, 2) := lwq_ok (e := (1433, .iload 4)) (List.all_eq_true.mp lwA_20 _ (List.mem_of_getElem? (i := 35) rfl)) rfl
theorem dW_1435 : decode cL_law 1435 = .ok (.iconst 1, 1) := lwq_ok (e := (1435, .iconst 1)) (List.all_eq_true.mp lwA_20 _ (List.mem_of_getElem? (i := 36) rfl)) rfl
theorem dW_1436 : decode cL_law 1436 = .ok (.iadd, 1) := lwq_ok (e := (1436, .iadd)) (List.all_eq_true.mp lwA_20 _ (List.mem_of_getElem? (i := 37) rfl)) rfl
theorem dW_1437 : decode cL_law 1437 = .ok (.iaload, 1) := lwq_ok (e := (1437, .iaload)) (List.all_eq_true.mp lwA_20 _ (List.mem_of_getElem? (i := 38) rfl)) rfl
theorem dW_1438 : decode cL_law 1438 = .ok (.aload_n 0, 1) := lwq_ok (e := (1438, .aload_n 0)) (List.all_eq_true.mp lwA_20 _ (List.mem_of_getElem? (i := 39) rfl)) rfl
def lwL_21 : List (Nat × Instr) := [(1439, .iload 4), (1441, .iconst 2), (1442, .iadd), (1443, .iaload), (1444, .invokevirtual 173), (1447, .pop), (1448, .goto 153), (1451, .aload_n 1), (1452, .aload_n 0), (1453, .iload 4), (1455, .iconst 1), (1456, .iadd), (1457, .iaload), (1458, .aload_n 0), (1459, .iload 4), (1461, .iconst 2), (1462, .iadd), (1463, .iaload), (1464, .invokevirtual 174), (1467, .pop), (1468, .aload_n 2), (1469, .aload_n 0), (1470, .iload 4), (1472, .iconst 1), (1473, .iadd), (1474, .iaload), (1475, .aload_n 0), (1476, .iload 4), (1478, .iconst 2), (1479, .iadd), (1480, .iaload), (1481, .invokevirtual 177), (1484, .pop), (1485, .goto 116), (1488, .aload_n 1), (1489, .aload_n 0), (1490, .iload 4), (1492, .iconst 1), (1493, .iadd), (1494, .iaload)]
set_option maxRecDepth 100000 in
theorem lwA_21 : lwL_21.all (fun e => xdec cL_law e && xtg e) = true := dW_top (by decide +kernel)
theorem dW_1439 : decode cL_law 1439 = .ok (.iload 4, 2) := lwq_ok (e := (1439, .iload 4)) (List.all_eq_true.mp lwA_21 _ (List.mem_of_getElem? (i := 0) rfl)) rfl
theorem dW_1441 : decode cL_law 1441 = .ok (.iconst 2, 1) := lwq_ok (e := (1441, .iconst 2)) (List.all_eq_true.mp lwA_21 _ (List.mem_of_getElem? (i := 1) rfl)) rfl
theorem dW_1442 : decode cL_law 1442 = .ok (.iadd, 1) := lwq_ok (e := (1442, .iadd)) (List.all_eq_true.mp lwA_21 _ (List.mem_of_getElem? (i := 2) rfl)) rfl
theorem dW_1443 : decode cL_law 1443 = .ok (.iaload, 1) := lwq_ok (e := (1443, .iaload)) (List.all_eq_true.mp lwA_21 _ (List.mem_of_getElem? (i := 3) rfl)) rfl
theorem dW_1444 : decode cL_law 1444 = .ok (.invokevirtual 173, 3) := lwq_ok (e := (1444, .invokevirtual 173)) (List.all_eq_true.mp lwA_21 _ (List.mem_of_getElem? (i := 4) rfl)) rfl
theorem dW_1447 : decode cL_law 1447 = .ok (.pop, 1) := lwq_ok (e := (1447, .pop)) (List.all_eq_true.mp lwA_21 _ (List.mem_of_getElem? (i := 5) rfl)) rfl
theorem dW_1448 : decode cL_law 1448 = .ok (.goto 153, 3) := lwq_ok (e := (1448, .goto 153)) (List.all_eq_true.mp lwA_21 _ (List.mem_of_getElem? (i := 6) rfl)) rfl
theorem dW_1451 : decode cL_law 1451 = .ok (.aload_n 1, 1) := lwq_ok (e := (1451, .aload_n 1)) (List.all_eq_true.mp lwA_21 _ (List.mem_of_getElem? (i := 7) rfl)) rfl
theorem dW_1452 : decode cL_law 1452 = .ok (.aload_n 0, 1) := lwq_ok (e := (1452, .aload_n 0)) (List.all_eq_true.mp lwA_21 _ (List.mem_of_getElem? (i := 8) rfl)) rfl
theorem dW_1453 : decode cL_law 1453 = .ok (.iload 4, 2) := lwq_ok (e := (1453, .iload 4)) (List.all_eq_true.mp lwA_21 _ (List.mem_of_getElem? (i := 9) rfl)) rfl
theorem dW_1455 : decode cL_law 1455 = .ok (.iconst 1, 1) := lwq_ok (e := (1455, .iconst 1)) (List.all_eq_true.mp lwA_21 _ (List.mem_of_getElem? (i := 10) rfl)) rfl
theorem dW_1456 : decode cL_law 1456 = .ok (.iadd, 1) := lwq_ok (e := (1456, .iadd)) (List.all_eq_true.mp lwA_21 _ (List.mem_of_getElem? (i := 11) rfl)) rfl
theorem dW_1457 : decode cL_law 1457 = .ok (.iaload, 1) := lwq_ok (e := (1457, .iaload)) (List.all_eq_true.mp lwA_21 _ (List.mem_of_getElem? (i := 12) rfl)) rfl
theorem dW_1458 : decode cL_law 1458 = .ok (.aload_n 0, 1) := lwq_ok (e := (1458, .aload_n 0)) (List.all_eq_true.mp lwA_21 _ (List.mem_of_getElem? (i := 13) rfl)) rfl
theorem dW_1459 : decode cL_law 1459 = .ok (.iload 4, 2) := lwq_ok (e := (1459, .iload 4)) (List.all_eq_true.mp lwA_21 _ (List.mem_of_getElem? (i := 14) rfl)) rfl
theorem dW_1461 : decode cL_law 1461 = .ok (.iconst 2, 1) := lwq_ok (e := (1461, .iconst 2)) (List.all_eq_true.mp lwA_21 _ (List.mem_of_getElem? (i := 15) rfl)) rfl
theorem dW_1462 : decode cL_law 1462 = .ok (.iadd, 1) := lwq_ok (e := (1462, .iadd)) (List.all_eq_true.mp lwA_21 _ (List.mem_of_getElem? (i := 16) rfl)) rfl
theorem dW_1463 : decode cL_law 1463 = .ok (.iaload, 1) := lwq_ok (e := (1463, .iaload)) (List.all_eq_true.mp lwA_21 _ (List.mem_of_getElem? (i := 17) rfl)) rfl
theorem dW_1464 : decode cL_law 1464 = .ok (.invokevirtual 174, 3) := lwq_ok (e := (1464, .invokevirtual 174)) (List.all_eq_true.mp lwA_21 _ (List.mem_of_getElem? (i := 18) rfl)) rfl
theorem dW_1467 : decode cL_law 1467 = .ok (.pop, 1) := lwq_ok (e := (1467, .pop)) (List.all_eq_true.mp lwA_21 _ (List.mem_of_getElem? (i := 19) rfl)) rfl
theorem dW_1468 : decode cL_law 1468 = .ok (.aload_n 2, 1) := lwq_ok (e := (1468, .aload_n 2)) (List.all_eq_true.mp lwA_21 _ (List.mem_of_getElem? (i := 20) rfl)) rfl
theorem dW_1469 : decode cL_law 1469 = .ok (.aload_n 0, 1) := lwq_ok (e := (1469, .aload_n 0)) (List.all_eq_true.mp lwA_21 _ (List.mem_of_getElem? (i := 21) rfl)) rfl
theorem dW_1470 : decode cL_law 1470 = .ok (.iload 4, 2) := lwq_ok (e := (1470, .iload 4)) (List.all_eq_true.mp lwA_21 _ (List.mem_of_getElem? (i := 22) rfl)) rfl
theorem dW_1472 : decode cL_law 1472 = .ok (.iconst 1, 1) := lwq_ok (e := (1472, .iconst 1)) (List.all_eq_true.mp lwA_21 _ (List.mem_of_getElem? (i := 23) rfl)) rfl
theorem dW_1473 : decode cL_law 1473 = .ok (.iadd, 1) := lwq_ok (e := (1473, .iadd)) (List.all_eq_true.mp lwA_21 _ (List.mem_of_getElem? (i := 24) rfl)) rfl
theorem dW_1474 : decode cL_law 1474 = .ok (.iaload, 1) := lwq_ok (e := (1474, .iaload)) (List.all_eq_true.mp lwA_21 _ (List.mem_of_getElem? (i := 25) rfl)) rfl
theorem dW_1475 : decode cL_law 1475 = .ok (.aload_n 0, 1) := lwq_ok (e := (1475, .aload_n 0)) (List.all_eq_true.mp lwA_21 _ (List.mem_of_getElem? (i := 26) rfl)) rfl
theorem dW_1476 : decode cL_law 1476 = .ok (.iload 4, 2) := lwq_ok (e := (1476, .iload 4)) (List.all_eq_true.mp lwA_21 _ (List.mem_of_getElem? (i := 27) rfl)) rfl
theorem dW_1478 : decode cL_law 1478 = .ok (.iconst 2, 1) := lwq_ok (e := (1478, .iconst 2)) (List.all_eq_true.mp lwA_21 _ (List.mem_of_getElem? (i := 28) rfl)) rfl
theorem dW_1479 : decode cL_law 1479 = .ok (.iadd, 1) := lwq_ok (e := (1479, .iadd)) (List.all_eq_true.mp lwA_21 _ (List.mem_of_getElem? (i := 29) rfl)) rfl
theorem dW_1480 : decode cL_law 1480 = .ok (.iaload, 1) := lwq_ok (e := (1480, .iaload)) (List.all_eq_true.mp lwA_21 _ (List.mem_of_getElem? (i := 30) rfl)) rfl
theorem dW_1481 : decode cL_law 1481 = .ok (.invokevirtual 177, 3) := lwq_ok (e := (1481, .invokevirtual 177)) (List.all_eq_true.mp lwA_21 _ (List.mem_of_getElem? (i := 31) rfl)) rfl
theorem dW_1484 : decode cL_law 1484 = .ok (.pop, 1) := lwq_ok (e := (1484, .pop)) (List.all_eq_true.mp lwA_21 _ (List.mem_of_getElem? (i := 32) rfl)) rfl
theorem dW_1485 : decode cL_law 1485 = .ok (.goto 116, 3) := lwq_ok (e := (1485, .goto 116)) (List.all_eq_true.mp lwA_21 _ (List.mem_of_getElem? (i := 33) rfl)) rfl
theorem dW_1488 : decode cL_law 1488 = .ok (.aload_n 1, 1) := lwq_ok (e := (1488, .aload_n 1)) (List.all_eq_true.mp lwA_21 _ (List.mem_of_getElem? (i := 34) rfl)) rfl
theorem dW_1489 : decode cL_law 1489 = .ok (.aload_n 0, 1) := lwq_ok (e := (1489, .aload_n 0)) (List.all_eq_true.mp lwA_21 _ (List.mem_of_getElem? (i := 35) rfl)) rfl
theorem dW_1490 : decode cL_law 1490 = .ok (.iload 4, 2) := lwq_ok (e := (1490, .iload 4)) (List.all_eq_true.mp lwA_21 _ (List.mem_of_getElem? (i := 36) rfl)) rfl
theorem dW_1492 : decode cL_law 1492 = .ok (.iconst 1, 1) := lwq_ok (e := (1492, .iconst 1)) (List.all_eq_true.mp lwA_21 _ (List.mem_of_getElem? (i := 37) rfl)) rfl
theorem dW_1493 : decode cL_law 1493 = .ok (.iadd, 1) := lwq_ok (e := (1493, .iadd)) (List.all_eq_true.mp lwA_21 _ (List.mem_of_getElem? (i := 38) rfl)) rfl
theorem dW_1494 : decode cL_law 1494 = .ok (.iaload, 1) := lwq_ok (e := (1494, .iaload)) (List.all_eq_true.mp lwA_21 _ (List.mem_of_getElem? (i := 39) rfl)) rfl
def lwL_22 : List (Nat × Instr) := [(1495, .invokevirtual 178), (1498, .pop), (1499, .aload_n 2), (1500, .aload_n 0), (1501, .iload 4), (1503, .iconst 1), (1504, .iadd), (1505, .iaload), (1506, .invokevirtual 181), (1509, .pop), (1510, .goto 91), (1513, .aload_n 1), (1514, .aload_n 0), (1515, .iload 4), (1517, .iconst 1), (1518, .iadd), (1519, .iaload), (1520, .aload_n 0), (1521, .iload 4), (1523, .iconst 2), (1524, .iadd), (1525, .iaload), (1526, .invokevirtual 182), (1529, .pop), (1530, .aload_n 2), (1531, .aload_n 0), (1532, .iload 4), (1534, .iconst 1), (1535, .iadd), (1536, .iaload), (1537, .aload_n 0), (1538, .iload 4), (1540, .iconst 2), (1541, .iadd), (1542, .iaload), (1543, .invokevirtual 185), (1546, .pop), (1547, .goto 54), (1550, .aload_n 1), (1551, .invokevirtual 186)]
set_option maxRecDepth 100000 in
theorem lwA_22 : lwL_22.all (fun e => xdec cL_law e && xtg e) = true := dW_top (by decide +kernel)
theorem dW_1495 : decode cL_law 1495 = .ok (.invokevirtual 178, 3) := lwq_ok (e := (1495, .invokevirtual 178)) (List.all_eq_true.mp lwA_22 _ (List.mem_of_getElem? (i := 0) rfl)) rfl
theorem dW_1498 : decode cL_law 1498 = .ok (.pop, 1) := lwq_ok (e := (1498, .pop)) (List.all_eq_true.mp lwA_22 _ (List.mem_of_getElem? (i := 1) rfl)) rfl
theorem dW_1499 : decode cL_law 1499 = .ok (.aload_n 2, 1) := lwq_ok (e := (1499, .aload_n 2)) (List.all_eq_true.mp lwA_22 _ (List.mem_of_getElem? (i := 2) rfl)) rfl
theorem dW_1500 : decode cL_law 1500 = .ok (.aload_n 0, 1) := lwq_ok (e := (1500, .aload_n 0)) (List.all_eq_true.mp lwA_22 _ (List.mem_of_getElem? (i := 3) rfl)) rfl
theorem dW_1501 : decode cL_law 1501 = .ok (.iload 4, 2) := lwq_ok (e := (1501, .iload 4)) (List.all_eq_true.mp lwA_22 _ (List.mem_of_getElem? (i := 4) rfl)) rfl
theorem dW_1503 : decode cL_law 1503 = .ok (.iconst 1, 1) := lwq_ok (e := (1503, .iconst 1)) (List.all_eq_true.mp lwA_22 _ (List.mem_of_getElem? (i := 5) rfl)) rfl
theorem dW_1504 : decode cL_law 1504 = .ok (.iadd, 1) := lwq_ok (e := (1504, .iadd)) (List.all_eq_true.mp lwA_22 _ (List.mem_of_getElem? (i := 6) rfl)) rfl
theorem dW_1505 : decode cL_law 1505 = .ok (.iaload, 1) := lwq_ok (e := (1505, .iaload)) (List.all_eq_true.mp lwA_22 _ (List.mem_of_getElem? (i := 7) rfl)) rfl
theorem dW_1506 : decode cL_law 1506 = .ok (.invokevirtual 181, 3) := lwq_ok (e := (1506, .invokevirtual 181)) (List.all_eq_true.mp lwA_22 _ (List.mem_of_getElem? (i := 8) rfl)) rfl
theorem dW_1509 : decode cL_law 1509 = .ok (.pop, 1) := lwq_ok (e := (1509, .pop)) (List.all_eq_true.mp lwA_22 _ (List.mem_of_getElem? (i := 9) rfl)) rfl
theorem dW_1510 : decode cL_law 1510 = .ok (.goto 91, 3) := lwq_ok (e := (1510, .goto 91)) (List.all_eq_true.mp lwA_22 _ (List.mem_of_getElem? (i := 10) rfl)) rfl
theorem dW_1513 : decode cL_law 1513 = .ok (.aload_n 1, 1) := lwq_ok (e := (1513, .aload_n 1)) (List.all_eq_true.mp lwA_22 _ (List.mem_of_getElem? (i := 11) rfl)) rfl
theorem dW_1514 : decode cL_law 1514 = .ok (.aload_n 0, 1) := lwq_ok (e := (1514, .aload_n 0)) (List.all_eq_true.mp lwA_22 _ (List.mem_of_getElem? (i := 12) rfl)) rfl
theorem dW_1515 : decode cL_law 1515 = .ok (.iload 4, 2) := lwq_ok (e := (1515, .iload 4)) (List.all_eq_true.mp lwA_22 _ (List.mem_of_getElem? (i := 13) rfl)) rfl
theorem dW_1517 : decode cL_law 1517 = .ok (.iconst 1, 1) := lwq_ok (e := (1517, .iconst 1)) (List.all_eq_true.mp lwA_22 _ (List.mem_of_getElem? (i := 14) rfl)) rfl
theorem dW_1518 : decode cL_law 1518 = .ok (.iadd, 1) := lwq_ok (e := (1518, .iadd)) (List.all_eq_true.mp lwA_22 _ (List.mem_of_getElem? (i := 15) rfl)) rfl
theorem dW_1519 : decode cL_law 1519 = .ok (.iaload, 1) := lwq_ok (e := (1519, .iaload)) (List.all_eq_true.mp lwA_22 _ (List.mem_of_getElem? (i := 16) rfl)) rfl
theorem dW_1520 : decode cL_law 1520 = .ok (.aload_n 0, 1) := lwq_ok (e := (1520, .aload_n 0)) (List.all_eq_true.mp lwA_22 _ (List.mem_of_getElem? (i := 17) rfl)) rfl
theorem dW_1521 : decode cL_law 1521 = .ok (.iload 4, 2) := lwq_ok (e := (1521, .iload 4)) (List.all_eq_true.mp lwA_22 _ (List.mem_of_getElem? (i := 18) rfl)) rfl
theorem dW_1523 : decode cL_law 1523 = .ok (.iconst 2, 1) := lwq_ok (e := (1523, .iconst 2)) (List.all_eq_true.mp lwA_22 _ (List.mem_of_getElem? (i := 19) rfl)) rfl
theorem dW_1524 : decode cL_law 1524 = .ok (.iadd, 1) := lwq_ok (e := (1524, .iadd)) (List.all_eq_true.mp lwA_22 _ (List.mem_of_getElem? (i := 20) rfl)) rfl
theorem dW_1525 : decode cL_law 1525 = .ok (.iaload, 1) := lwq_ok (e := (1525, .iaload)) (List.all_eq_true.mp lwA_22 _ (List.mem_of_getElem? (i := 21) rfl)) rfl
theorem dW_1526 : decode cL_law 1526 = .ok (.invokevirtual 182, 3) := lwq_ok (e := (1526, .invokevirtual 182)) (List.all_eq_true.mp lwA_22 _ (List.mem_of_getElem? (i := 22) rfl)) rfl
theorem dW_1529 : decode cL_law 1529 = .ok (.pop, 1) := lwq_ok (e := (1529, .pop)) (List.all_eq_true.mp lwA_22 _ (List.mem_of_getElem? (i := 23) rfl)) rfl
theorem dW_1530 : decode cL_law 1530 = .ok (.aload_n 2, 1) := lwq_ok (e := (1530, .aload_n 2)) (List.all_eq_true.mp lwA_22 _ (List.mem_of_getElem? (i := 24) rfl)) rfl
theorem dW_1531 : decode cL_law 1531 = .ok (.aload_n 0, 1) := lwq_ok (e := (1531, .aload_n 0)) (List.all_eq_true.mp lwA_22 _ (List.mem_of_getElem? (i := 25) rfl)) rfl
theorem dW_1532 : decode cL_law 1532 = .ok (.iload 4, 2) := lwq_ok (e := (1532, .iload 4)) (List.all_eq_true.mp lwA_22 _ (List.mem_of_getElem? (i := 26) rfl)) rfl
theorem dW_1534 : decode cL_law 1534 = .ok (.iconst 1, 1) := lwq_ok (e := (1534, .iconst 1)) (List.all_eq_true.mp lwA_22 _ (List.mem_of_getElem? (i := 27) rfl)) rfl
theorem dW_1535 : decode cL_law 1535 = .ok (.iadd, 1) := lwq_ok (e := (1535, .iadd)) (List.all_eq_true.mp lwA_22 _ (List.mem_of_getElem? (i := 28) rfl)) rfl
theorem dW_1536 : decode cL_law 1536 = .ok (.iaload, 1) := lwq_ok (e := (1536, .iaload)) (List.all_eq_true.mp lwA_22 _ (List.mem_of_getElem? (i := 29) rfl)) rfl
theorem dW_1537 : decode cL_law 1537 = .ok (.aload_n 0, 1) := lwq_ok (e := (1537, .aload_n 0)) (List.all_eq_true.mp lwA_22 _ (List.mem_of_getElem? (i := 30) rfl)) rfl
theorem dW_1538 : decode cL_law 1538 = .ok (.iload 4, 2) := lwq_ok (e := (1538, .iload 4)) (List.all_eq_true.mp lwA_22 _ (List.mem_of_getElem? (i := 31) rfl)) rfl
theorem dW_1540 : decode cL_law 1540 = .ok (.iconst 2, 1) := lwq_ok (e := (1540, .iconst 2)) (List.all_eq_true.mp lwA_22 _ (List.mem_of_getElem? (i := 32) rfl)) rfl
theorem dW_1541 : decode cL_law 1541 = .ok (.iadd, 1) := lwq_ok (e := (1541, .iadd)) (List.all_eq_true.mp lwA_22 _ (List.mem_of_getElem? (i := 33) rfl)) rfl
theorem dW_1542 : decode cL_law 1542 = .ok (.iaload, 1) := lwq_ok (e := (1542, .iaload)) (List.all_eq_true.mp lwA_22 _ (List.mem_of_getElem? (i := 34) rfl)) rfl
theorem dW_1543 : decode cL_law 1543 = .ok (.invokevirtual 185, 3) := lwq_ok (e := (1543, .invokevirtual 185)) (List.all_eq_true.mp lwA_22 _ (List.mem_of_getElem? (i := 35) rfl)) rfl
theorem dW_1546 : decode cL_law 1546 = .ok (.pop, 1) := lwq_ok (e := (1546, .pop)) (List.all_eq_true.mp lwA_22 _ (List.mem_of_getElem? (i := 36) rfl)) rfl
theorem dW_1547 : decode cL_law 1547 = .ok (.goto 54, 3) := lwq_ok (e := (1547, .goto 54)) (List.all_eq_true.mp lwA_22 _ (List.mem_of_getElem? (i := 37) rfl)) rfl
theorem dW_1550 : decode cL_law 1550 = .ok (.aload_n 1, 1) := lwq_ok (e := (1550, .aload_n 1)) (List.all_eq_true.mp lwA_22 _ (List.mem_of_getElem? (i := 38) rfl)) rfl
theorem dW_1551 : decode cL_law 1551 = .ok (.invokevirtual 186, 3) := lwq_ok (e := (1551, .invokevirtual 186)) (List.all_eq_true.mp lwA_22 _ (List.mem_of_getElem? (i := 39) rfl)) rfl
def lwL_23 : List (Nat × Instr) := [(1554, .pop), (1555, .aload_n 2), (1556, .invokevirtual 189), (1559, .pop), (1560, .goto 41), (1563, .aload_n 1), (1564, .invokevirtual 190), (1567, .pop), (1568, .aload_n 2), (1569, .invokevirtual 193), (1572, .pop), (1573, .goto 28), (1576, .aload_n 1), (1577, .aload_n 0), (1578, .iload 4), (1580, .iconst 1), (1581, .iadd), (1582, .iaload), (1583, .invokevirtual 194), (1586, .aload_n 2), (1587, .aload_n 0), (1588, .iload 4), (1590, .iconst 1), (1591, .iadd), (1592, .iaload), (1593, .invokevirtual 197), (1596, .if_icmp .eq 5)]
set_option maxRecDepth 100000 in
theorem lwA_23 : lwL_23.all (fun e => xdec cL_law e && xtg e) = true := dW_top (by decide +kernel)
theorem dW_1554 : decode cL_law 1554 = .ok (.pop, 1) := lwq_ok (e := (1554, .pop)) (List.all_eq_true.mp lwA_23 _ (List.mem_of_getElem? (i := 0) rfl)) rfl
theorem dW_1555 : decode cL_law 1555 = .ok (.aload_n 2, 1) := lwq_ok (e := (1555, .aload_n 2)) (List.all_eq_true.mp lwA_23 _ (List.mem_of_getElem? (i := 1) rfl)) rfl
theorem dW_1556 : decode cL_law 1556 = .ok (.invokevirtual 189, 3) := lwq_ok (e := (1556, .invokevirtual 189)) (List.all_eq_true.mp lwA_23 _ (List.mem_of_getElem? (i := 2) rfl)) rfl
theorem dW_1559 : decode cL_law 1559 = .ok (.pop, 1) := lwq_ok (e := (1559, .pop)) (List.all_eq_true.mp lwA_23 _ (List.mem_of_getElem? (i := 3) rfl)) rfl
theorem dW_1560 : decode cL_law 1560 = .ok (.goto 41, 3) := lwq_ok (e := (1560, .goto 41)) (List.all_eq_true.mp lwA_23 _ (List.mem_of_getElem? (i := 4) rfl)) rfl
theorem dW_1563 : decode cL_law 1563 = .ok (.aload_n 1, 1) := lwq_ok (e := (1563, .aload_n 1)) (List.all_eq_true.mp lwA_23 _ (List.mem_of_getElem? (i := 5) rfl)) rfl
theorem dW_1564 : decode cL_law 1564 = .ok (.invokevirtual 190, 3) := lwq_ok (e := (1564, .invokevirtual 190)) (List.all_eq_true.mp lwA_23 _ (List.mem_of_getElem? (i := 6) rfl)) rfl
theorem dW_1567 : decode cL_law 1567 = .ok (.pop, 1) := lwq_ok (e := (1567, .pop)) (List.all_eq_true.mp lwA_23 _ (List.mem_of_getElem? (i := 7) rfl)) rfl
theorem dW_1568 : decode cL_law 1568 = .ok (.aload_n 2, 1) := lwq_ok (e := (1568, .aload_n 2)) (List.all_eq_true.mp lwA_23 _ (List.mem_of_getElem? (i := 8) rfl)) rfl
theorem dW_1569 : decode cL_law 1569 = .ok (.invokevirtual 193, 3) := lwq_ok (e := (1569, .invokevirtual 193)) (List.all_eq_true.mp lwA_23 _ (List.mem_of_getElem? (i := 9) rfl)) rfl
theorem dW_1572 : decode cL_law 1572 = .ok (.pop, 1) := lwq_ok (e := (1572, .pop)) (List.all_eq_true.mp lwA_23 _ (List.mem_of_getElem? (i := 10) rfl)) rfl
theorem dW_1573 : decode cL_law 1573 = .ok (.goto 28, 3) := lwq_ok (e := (1573, .goto 28)) (List.all_eq_true.mp lwA_23 _ (List.mem_of_getElem? (i := 11) rfl)) rfl
theorem dW_1576 : decode cL_law 1576 = .ok (.aload_n 1, 1) := lwq_ok (e := (1576, .aload_n 1)) (List.all_eq_true.mp lwA_23 _ (List.mem_of_getElem? (i := 12) rfl)) rfl
theorem dW_1577 : decode cL_law 1577 = .ok (.aload_n 0, 1) := lwq_ok (e := (1577, .aload_n 0)) (List.all_eq_true.mp lwA_23 _ (List.mem_of_getElem? (i := 13) rfl)) rfl
theorem dW_1578 : decode cL_law 1578 = .ok (.iload 4, 2) := lwq_ok (e := (1578, .iload 4)) (List.all_eq_true.mp lwA_23 _ (List.mem_of_getElem? (i := 14) rfl)) rfl
theorem dW_1580 : decode cL_law 1580 = .ok (.iconst 1, 1) := lwq_ok (e := (1580, .iconst 1)) (List.all_eq_true.mp lwA_23 _ (List.mem_of_getElem? (i := 15) rfl)) rfl
theorem dW_1581 : decode cL_law 1581 = .ok (.iadd, 1) := lwq_ok (e := (1581, .iadd)) (List.all_eq_true.mp lwA_23 _ (List.mem_of_getElem? (i := 16) rfl)) rfl
theorem dW_1582 : decode cL_law 1582 = .ok (.iaload, 1) := lwq_ok (e := (1582, .iaload)) (List.all_eq_true.mp lwA_23 _ (List.mem_of_getElem? (i := 17) rfl)) rfl
theorem dW_1583 : decode cL_law 1583 = .ok (.invokevirtual 194, 3) := lwq_ok (e := (1583, .invokevirtual 194)) (List.all_eq_true.mp lwA_23 _ (List.mem_of_getElem? (i := 18) rfl)) rfl
theorem dW_1586 : decode cL_law 1586 = .ok (.aload_n 2, 1) := lwq_ok (e := (1586, .aload_n 2)) (List.all_eq_true.mp lwA_23 _ (List.mem_of_getElem? (i := 19) rfl)) rfl
theorem dW_1587 : decode cL_law 1587 = .ok (.aload_n 0, 1) := lwq_ok (e := (1587, .aload_n 0)) (List.all_eq_true.mp lwA_23 _ (List.mem_of_getElem? (i := 20) rfl)) rfl
theorem dW_1588 : decode cL_law 1588 = .ok (.iload 4, 2) := lwq_ok (e := (1588, .iload 4)) (List.all_eq_true.mp lwA_23 _ (List.mem_of_getElem? (i := 21) rfl)) rfl
theorem dW_1590 : decode cL_law 1590 = .ok (.iconst 1, 1) := lwq_ok (e := (1590, .iconst 1)) (List.all_eq_true.mp lwA_23 _ (List.mem_of_getElem? (i := 22) rfl)) rfl
theorem dW_1591 : decode cL_law 1591 = .ok (.iadd, 1) := lwq_ok (e := (1591, .iadd)) (List.all_eq_true.mp lwA_23 _ (List.mem_of_getElem? (i := 23) rfl)) rfl
theorem dW_1592 : decode cL_law 1592 = .ok (.iaload, 1) := lwq_ok (e := (1592, .iaload)) (List.all_eq_true.mp lwA_23 _ (List.mem_of_getElem? (i := 24) rfl)) rfl
theorem dW_1593 : decode cL_law 1593 = .ok (.invokevirtual 197, 3) := lwq_ok (e := (1593, .invokevirtual 197)) (List.all_eq_true.mp lwA_23 _ (List.mem_of_getElem? (i := 25) rfl)) rfl
theorem dW_1596 : decode cL_law 1596 = .ok (.if_icmp .eq 5, 3) := lwq_ok (e := (1596, .if_icmp .eq 5)) (List.all_eq_true.mp lwA_23 _ (List.mem_of_getElem? (i := 26) rfl)) rfl
section CASES
variable {p : Program} {l : Launch} {e : Env} {s : State} {mid : MethodId} {below : List Frame} {meth : Method} {c : Code} {b L : Nat} {xs : Nat → Int32}
variable {dC : Nat → ClassId} {dI : Nat → Nat → Nat} {cA : Nat → ClassId} {q sv : Nat → Nat} {qo : Nat} {cells slots : Nat} {Q : State → Prop} {ls : Array Slot} {H : Heap} {locs : List Loc} {x : xM} {i : Nat}
theorem bo_any {y : Int32} (h : y = 0 ∨ y = 1) : aH (fun _ => 0) (.int y) (aI 0 1) := Or.inr (Or.inl ⟨rfl, y, rfl, by rcases h with h | h <;> rw [h] <;> decide, trivial⟩)
set_option maxHeartbeats 2000000 in
theorem lk_0 (C : lCx p l s mid meth c b L xs dC dI cA q sv qo) (hL : L ≤ 3072) (hi : i + 6 ≤ L) (hls : lv_has ls 7 (lvL b q qo i)) (hst : lSt s dC dI cA q qo x H locs) (hv : Inv x) (hcs : cells ≤ 601024 ∧ slots ≤ 7293033) (kk : ∀ (x' : xM) (H1 : Heap) (locs1 : List Loc), Inv x' → lSt s dC dI cA q qo x' H1 locs1 → W p l e room_1 s mid #[Value.ref b] below meth c H1 locs1 cells slots Q (F0 mid 1601 ls [])) : W p l e room_1 s mid #[Value.ref b] below meth c H locs cells slots Q (F0 mid 224 ls []) := by
  obtain ⟨hx, hb, hr, hml, hown, hts, -⟩ := id C.1
  have hown : s.vm.findClass RL = some mid.cls := hown
  refine l_a1 C dW_224 hls ?_
  refine l_arg C (k := 1) dW_225 dW_226 dW_228 dW_229 dW_230 (by decide) (by omega) hL hls hst ?_
  refine l_arg C (k := 2) dW_231 dW_232 dW_234 dW_235 dW_236 (by decide) (by omega) hL hls hst ?_
  refine l_arg C (k := 3) dW_237 dW_238 dW_240 dW_241 dW_242 (by decide) (by omega) hL hls hst ?_
  refine l_arg C (k := 4) dW_243 dW_244 dW_246 dW_247 dW_248 (by decide) (by omega) hL hls hst ?_
  refine l_arg C (k := 5) dW_249 dW_250 dW_252 dW_253 dW_254 (by decide) (by omega) hL hls hst ?_
  obtain ⟨XF, hx1, hm1⟩ := p_feed (xs (i + 1)) (xs (i + 2)) (xs (i + 3)) (xs (i + 4)) (xs (i + 5)) x hv
  refine l_call1 C (a := 0) (j := 96) (w := 552) (n := 5) (as := [.int (xs (i + 1)), .int (xs (i + 2)), .int (xs (i + 3)), .int (xs (i + 4)), .int (xs (i + 5))]) (rest := []) (d := 1200) dW_255 (by decide +kernel) rfl (by decide) (Nat.le_refl _) hx1 hls hst hcs (fun rv x1 H1 locs1 hp1 hst1 => ?_)
  obtain ⟨⟨z, rfl⟩, hp1⟩ := hp1
  refine lv_pop hx hb dW_258 rfl ?_
  refine l_a2 C dW_259 hls ?_
  refine l_arg C (k := 1) dW_260 dW_261 dW_263 dW_264 dW_265 (by decide) (by omega) hL hls hst1 ?_
  refine l_arg C (k := 2) dW_266 dW_267 dW_269 dW_270 dW_271 (by decide) (by omega) hL hls hst1 ?_
  refine l_arg C (k := 3) dW_272 dW_273 dW_275 dW_276 dW_277 (by decide) (by omega) hL hls hst1 ?_
  refine l_arg C (k := 4) dW_278 dW_279 dW_281 dW_282 dW_283 (by decide) (by omega) hL hls hst1 ?_
  refine l_arg C (k := 5) dW_284 dW_285 dW_287 dW_288 dW_289 (by decide) (by omega) hL hls hst1 ?_
  refine l_call1 C (a := 314) (j := 160) (w := 1452) (n := 5) (as := [.int (xs (i + 1)), .int (xs (i + 2)), .int (xs (i + 3)), .int (xs (i + 4)), .int (xs (i + 5))]) (rest := []) (d := 1200) dW_290 (by decide +kernel) rfl (by decide) (Nat.le_refl _) (hm1 _ _ hp1) hls hst1 hcs (fun rv x2 H2 locs2 hp2 hst2 => ?_)
  obtain ⟨rfl, hv2⟩ := hp2
  refine lv_pop hx hb dW_293 rfl ?_
  refine l_go C dW_294 (by decide) ?_
  exact kk x2 H2 locs2 hv2 hst2
set_option maxHeartbeats 2000000 in
theorem lk_1 (C : lCx p l s mid meth c b L xs dC dI cA q sv qo) (hL : L ≤ 3072) (hi : i + 6 ≤ L) (hls : lv_has ls 7 (lvL b q qo i)) (hst : lSt s dC dI cA q qo x H locs) (hv : Inv x) (hcs : cells ≤ 601024 ∧ slots ≤ 7293033) (kk : ∀ (x' : xM) (H1 : Heap) (locs1 : List Loc), Inv x' → lSt s dC dI cA q qo x' H1 locs1 → W p l e room_1 s mid #[Value.ref b] below meth c H1 locs1 cells slots Q (F0 mid 1601 ls [])) : W p l e room_1 s mid #[Value.ref b] below meth c H locs cells slots Q (F0 mid 297 ls []) := by
  obtain ⟨hx, hb, hr, hml, hown, hts, -⟩ := id C.1
  have hown : s.vm.findClass RL = some mid.cls := hown
  refine l_a1 C dW_297 hls ?_
  refine l_arg C (k := 1) dW_298 dW_299 dW_301 dW_302 dW_303 (by decide) (by omega) hL hls hst ?_
  obtain ⟨XF, hx1, hm1⟩ := p_end (xs (i + 1)) x hv
  refine l_call1 C (a := 0) (j := 97) (w := 563) (n := 1) (as := [.int (xs (i + 1))]) (rest := []) (d := 1200) dW_304 (by decide +kernel) rfl (by decide) (Nat.le_refl _) hx1 hls hst hcs (fun rv x1 H1 locs1 hp1 hst1 => ?_)
  obtain ⟨⟨z, rfl⟩, hp1⟩ := hp1
  refine lv_pop hx hb dW_307 rfl ?_
  refine l_a2 C dW_308 hls ?_
  refine l_arg C (k := 1) dW_309 dW_310 dW_312 dW_313 dW_314 (by decide) (by omega) hL hls hst1 ?_
  refine l_call1 C (a := 314) (j := 161) (w := 1463) (n := 1) (as := [.int (xs (i + 1))]) (rest := []) (d := 1200) dW_315 (by decide +kernel) rfl (by decide) (Nat.le_refl _) (hm1 _ _ hp1) hls hst1 hcs (fun rv x2 H2 locs2 hp2 hst2 => ?_)
  obtain ⟨rfl, hv2⟩ := hp2
  refine lv_pop hx hb dW_318 rfl ?_
  refine l_go C dW_319 (by decide) ?_
  exact kk x2 H2 locs2 hv2 hst2
set_option maxHeartbeats 2000000 in
theorem lk_2 (C : lCx p l s mid meth c b L xs dC dI cA q sv qo) (hL : L ≤ 3072) (hi : i + 6 ≤ L) (hls : lv_has ls 7 (lvL b q qo i)) (hst : lSt s dC dI cA q qo x H locs) (hv : Inv x) (hcs : cells ≤ 601024 ∧ slots ≤ 7293033) (kk : ∀ (x' : xM) (H1 : Heap) (locs1 : List Loc), Inv x' → lSt s dC dI cA q qo x' H1 locs1 → W p l e room_1 s mid #[Value.ref b] below meth c H1 locs1 cells slots Q (F0 mid 1601 ls [])) : W p l e room_1 s mid #[Value.ref b] below meth c H locs cells slots Q (F0 mid 322 ls []) := by
  obtain ⟨hx, hb, hr, hml, hown, hts, -⟩ := id C.1
  have hown : s.vm.findClass RL = some mid.cls := hown
  refine l_a1 C dW_322 hls ?_
  refine l_arg C (k := 1) dW_323 dW_324 dW_326 dW_327 dW_328 (by decide) (by omega) hL hls hst ?_
  obtain ⟨XF, hx1, hm1⟩ := p_fault (xs (i + 1)) x hv
  refine l_call1 C (a := 0) (j := 98) (w := 567) (n := 1) (as := [.int (xs (i + 1))]) (rest := []) (d := 1200) dW_329 (by decide +kernel) rfl (by decide) (Nat.le_refl _) hx1 hls hst hcs (fun rv x1 H1 locs1 hp1 hst1 => ?_)
  obtain ⟨⟨z, rfl⟩, hp1⟩ := hp1
  refine lv_pop hx hb dW_332 rfl ?_
  refine l_a2 C dW_333 hls ?_
  refine l_arg C (k := 1) dW_334 dW_335 dW_337 dW_338 dW_339 (by decide) (by omega) hL hls hst1 ?_
  refine l_call1 C (a := 314) (j := 190) (w := 1467) (n := 1) (as := [.int (xs (i + 1))]) (rest := []) (d := 1200) dW_340 (by decide +kernel) rfl (by decide) (Nat.le_refl _) (hm1 _ _ hp1) hls hst1 hcs (fun rv x2 H2 locs2 hp2 hst2 => ?_)
  obtain ⟨rfl, hv2⟩ := hp2
  refine lv_pop hx hb dW_343 rfl ?_
  refine l_go C dW_344 (by decide) ?_
  exact kk x2 H2 locs2 hv2 hst2
set_option maxHeartbeats 2000000 in
theorem lk_3 (C : lCx p l s mid meth c b L xs dC dI cA q sv qo) (hL : L ≤ 3072) (hi : i + 6 ≤ L) (hls : lv_has ls 7 (lvL b q qo i)) (hst : lSt s dC dI cA q qo x H locs) (hv : Inv x) (hcs : cells ≤ 601024 ∧ slots ≤ 7293033) (kk : ∀ (x' : xM) (H1 : Heap) (locs1 : List Loc), Inv x' → lSt s dC dI cA q qo x' H1 locs1 → W p l e room_1 s mid #[Value.ref b] below meth c H1 locs1 cells slots Q (F0 mid 1601 ls [])) : W p l e room_1 s mid #[Value.ref b] below meth c H locs cells slots Q (F0 mid 347 ls []) := by
  obtain ⟨hx, hb, hr, hml, hown, hts, -⟩ := id C.1
  have hown : s.vm.findClass RL = some mid.cls := hown
  refine l_a1 C dW_347 hls ?_
  refine l_arg C (k := 1) dW_348 dW_349 dW_351 dW_352 dW_353 (by decide) (by omega) hL hls hst ?_
  obtain ⟨XF, hx1, hm1⟩ := p_text (xs (i + 1)) x hv
  refine l_call1 C (a := 0) (j := 99) (w := 726) (n := 1) (as := [.int (xs (i + 1))]) (rest := []) (d := 1200) dW_354 (by decide +kernel) rfl (by decide) (Nat.le_refl _) hx1 hls hst hcs (fun rv x1 H1 locs1 hp1 hst1 => ?_)
  obtain ⟨⟨z, rfl⟩, hp1⟩ := hp1
  refine lv_pop hx hb dW_357 rfl ?_
  refine l_a2 C dW_358 hls ?_
  refine l_arg C (k := 1) dW_359 dW_360 dW_362 dW_363 dW_364 (by decide) (by omega) hL hls hst1 ?_
  refine l_call1 C (a := 314) (j := 191) (w := 1646) (n := 1) (as := [.int (xs (i + 1))]) (rest := []) (d := 1200) dW_365 (by decide +kernel) rfl (by decide) (Nat.le_refl _) (hm1 _ _ hp1) hls hst1 hcs (fun rv x2 H2 locs2 hp2 hst2 => ?_)
  obtain ⟨rfl, hv2⟩ := hp2
  refine lv_pop hx hb dW_368 rfl ?_
  refine l_go C dW_369 (by decide) ?_
  exact kk x2 H2 locs2 hv2 hst2
set_option maxHeartbeats 2000000 in
theorem lk_4 (C : lCx p l s mid meth c b L xs dC dI cA q sv qo) (hL : L ≤ 3072) (hi : i + 6 ≤ L) (hls : lv_has ls 7 (lvL b q qo i)) (hst : lSt s dC dI cA q qo x H locs) (hv : Inv x) (hcs : cells ≤ 601024 ∧ slots ≤ 7293033) (kk : ∀ (x' : xM) (H1 : Heap) (locs1 : List Loc), Inv x' → lSt s dC dI cA q qo x' H1 locs1 → W p l e room_1 s mid #[Value.ref b] below meth c H1 locs1 cells slots Q (F0 mid 1601 ls [])) : W p l e room_1 s mid #[Value.ref b] below meth c H locs cells slots Q (F0 mid 372 ls []) := by
  obtain ⟨hx, hb, hr, hml, hown, hts, -⟩ := id C.1
  have hown : s.vm.findClass RL = some mid.cls := hown
  refine l_a1 C dW_372 hls ?_
  refine l_arg C (k := 1) dW_373 dW_374 dW_376 dW_377 dW_378 (by decide) (by omega) hL hls hst ?_
  refine l_arg C (k := 2) dW_379 dW_380 dW_382 dW_383 dW_384 (by decide) (by omega) hL hls hst ?_
  refine l_cp C (a := 0) (idx := 38) (w := 761) (n := 2) (vs := [.int (xs (i + 1)), .int (xs (i + 2))]) q113 (by decide) dW_385 dW_388 (by decide +kernel) rfl (by decide +kernel) (by decide +kernel) (fun z => trivial) ⟨aI_any _, aI_any _, trivial⟩ hv hls hst hcs (fun x1 H1 locs1 hv1 hst1 => ?_)
  refine l_a2 C dW_389 hls ?_
  refine l_arg C (k := 1) dW_390 dW_391 dW_393 dW_394 dW_395 (by decide) (by omega) hL hls hst1 ?_
  refine l_arg C (k := 2) dW_396 dW_397 dW_399 dW_400 dW_401 (by decide) (by omega) hL hls hst1 ?_
  refine l_cp C (a := 314) (idx := 41) (w := 1651) (n := 2) (vs := [.int (xs (i + 1)), .int (xs (i + 2))]) r15 (by decide) dW_402 dW_405 (by decide +kernel) rfl (by decide +kernel) (by decide +kernel) (fun z => z.2.1) ⟨aI_any _, aI_any _, trivial⟩ hv1 hls hst1 hcs (fun x2 H2 locs2 hv2 hst2 => ?_)
  refine l_go C dW_406 (by decide) ?_
  exact kk x2 H2 locs2 hv2 hst2
set_option maxHeartbeats 2000000 in
theorem lk_5 (C : lCx p l s mid meth c b L xs dC dI cA q sv qo) (hL : L ≤ 3072) (hi : i + 6 ≤ L) (hls : lv_has ls 7 (lvL b q qo i)) (hst : lSt s dC dI cA q qo x H locs) (hv : Inv x) (hcs : cells ≤ 601024 ∧ slots ≤ 7293033) (kk : ∀ (x' : xM) (H1 : Heap) (locs1 : List Loc), Inv x' → lSt s dC dI cA q qo x' H1 locs1 → W p l e room_1 s mid #[Value.ref b] below meth c H1 locs1 cells slots Q (F0 mid 1601 ls [])) : W p l e room_1 s mid #[Value.ref b] below meth c H locs cells slots Q (F0 mid 409 ls []) := by
  obtain ⟨hx, hb, hr, hml, hown, hts, -⟩ := id C.1
  have hown : s.vm.findClass RL = some mid.cls := hown
  refine l_a1 C dW_409 hls ?_
  refine l_arg C (k := 1) dW_410 dW_411 dW_413 dW_414 dW_415 (by decide) (by omega) hL hls hst ?_
  refine l_arg C (k := 2) dW_416 dW_417 dW_419 dW_420 dW_421 (by decide) (by omega) hL hls hst ?_
  obtain ⟨XF, hx1, hm1⟩ := p_street (xs (i + 1)) (xs (i + 2)) x hv
  refine l_call1 C (a := 0) (j := 102) (w := 783) (n := 2) (as := [.int (xs (i + 1)), .int (xs (i + 2))]) (rest := []) (d := 1200) dW_422 (by decide +kernel) rfl (by decide) (Nat.le_refl _) hx1 hls hst hcs (fun rv x1 H1 locs1 hp1 hst1 => ?_)
  obtain ⟨⟨z, rfl⟩, hp1⟩ := hp1
  refine lv_pop hx hb dW_425 rfl ?_
  refine l_a2 C dW_426 hls ?_
  refine l_arg C (k := 1) dW_427 dW_428 dW_430 dW_431 dW_432 (by decide) (by omega) hL hls hst1 ?_
  refine l_arg C (k := 2) dW_433 dW_434 dW_436 dW_437 dW_438 (by decide) (by omega) hL hls hst1 ?_
  refine l_call1 C (a := 314) (j := 206) (w := 1663) (n := 2) (as := [.int (xs (i + 1)), .int (xs (i + 2))]) (rest := []) (d := 1200) dW_439 (by decide +kernel) rfl (by decide) (Nat.le_refl _) (hm1 _ _ hp1) hls hst1 hcs (fun rv x2 H2 locs2 hp2 hst2 => ?_)
  obtain ⟨rfl, hv2⟩ := hp2
  refine lv_pop hx hb dW_442 rfl ?_
  refine l_go C dW_443 (by decide) ?_
  exact kk x2 H2 locs2 hv2 hst2
set_option maxHeartbeats 2000000 in
theorem lk_7 (C : lCx p l s mid meth c b L xs dC dI cA q sv qo) (hL : L ≤ 3072) (hi : i + 6 ≤ L) (hls : lv_has ls 7 (lvL b q qo i)) (hst : lSt s dC dI cA q qo x H locs) (hv : Inv x) (hcs : cells ≤ 601024 ∧ slots ≤ 7293033) (kk : ∀ (x' : xM) (H1 : Heap) (locs1 : List Loc), Inv x' → lSt s dC dI cA q qo x' H1 locs1 → W p l e room_1 s mid #[Value.ref b] below meth c H1 locs1 cells slots Q (F0 mid 1601 ls [])) : W p l e room_1 s mid #[Value.ref b] below meth c H locs cells slots Q (F0 mid 486 ls []) := by
  obtain ⟨hx, hb, hr, hml, hown, hts, -⟩ := id C.1
  have hown : s.vm.findClass RL = some mid.cls := hown
  refine l_a1 C dW_486 hls ?_
  refine l_arg C (k := 1) dW_487 dW_488 dW_490 dW_491 dW_492 (by decide) (by omega) hL hls hst ?_
  obtain ⟨XF, hx1, hm1⟩ := p_law (xs (i + 1)) x hv
  refine l_call1 C (a := 0) (j := 104) (w := 797) (n := 1) (as := [.int (xs (i + 1))]) (rest := []) (d := 1200) dW_493 (by decide +kernel) rfl (by decide) (Nat.le_refl _) hx1 hls hst hcs (fun rv x1 H1 locs1 hp1 hst1 => ?_)
  obtain ⟨⟨z, rfl⟩, hp1⟩ := hp1
  refine lv_pop hx hb dW_496 rfl ?_
  refine l_a2 C dW_497 hls ?_
  refine l_arg C (k := 1) dW_498 dW_499 dW_501 dW_502 dW_503 (by decide) (by omega) hL hls hst1 ?_
  refine l_call1 C (a := 314) (j := 208) (w := 1680) (n := 1) (as := [.int (xs (i + 1))]) (rest := []) (d := 1200) dW_504 (by decide +kernel) rfl (by decide) (Nat.le_refl _) (hm1 _ _ hp1) hls hst1 hcs (fun rv x2 H2 locs2 hp2 hst2 => ?_)
  obtain ⟨rfl, hv2⟩ := hp2
  refine lv_pop hx hb dW_507 rfl ?_
  refine l_go C dW_508 (by decide) ?_
  exact kk x2 H2 locs2 hv2 hst2
set_option maxHeartbeats 2000000 in
theorem lk_8 (C : lCx p l s mid meth c b L xs dC dI cA q sv qo) (hL : L ≤ 3072) (hi : i + 6 ≤ L) (hls : lv_has ls 7 (lvL b q qo i)) (hst : lSt s dC dI cA q qo x H locs) (hv : Inv x) (hcs : cells ≤ 601024 ∧ slots ≤ 7293033) (kk : ∀ (x' : xM) (H1 : Heap) (locs1 : List Loc), Inv x' → lSt s dC dI cA q qo x' H1 locs1 → W p l e room_1 s mid #[Value.ref b] below meth c H1 locs1 cells slots Q (F0 mid 1601 ls [])) : W p l e room_1 s mid #[Value.ref b] below meth c H locs cells slots Q (F0 mid 511 ls []) := by
  obtain ⟨hx, hb, hr, hml, hown, hts, -⟩ := id C.1
  have hown : s.vm.findClass RL = some mid.cls := hown
  refine l_a1 C dW_511 hls ?_
  refine l_arg C (k := 1) dW_512 dW_513 dW_515 dW_516 dW_517 (by decide) (by omega) hL hls hst ?_
  obtain ⟨XF, hx1, hm1⟩ := p_council (xs (i + 1)) x hv
  refine l_call1 C (a := 0) (j := 105) (w := 801) (n := 1) (as := [.int (xs (i + 1))]) (rest := []) (d := 1200) dW_518 (by decide +kernel) rfl (by decide) (Nat.le_refl _) hx1 hls hst hcs (fun rv x1 H1 locs1 hp1 hst1 => ?_)
  obtain ⟨⟨z, rfl⟩, hp1⟩ := hp1
  refine lv_pop hx hb dW_521 rfl ?_
  refine l_a2 C dW_522 hls ?_
  refine l_arg C (k := 1) dW_523 dW_524 dW_526 dW_527 dW_528 (by decide) (by omega) hL hls hst1 ?_
  refine l_call1 C (a := 314) (j := 209) (w := 1684) (n := 1) (as := [.int (xs (i + 1))]) (rest := []) (d := 1200) dW_529 (by decide +kernel) rfl (by decide) (Nat.le_refl _) (hm1 _ _ hp1) hls hst1 hcs (fun rv x2 H2 locs2 hp2 hst2 => ?_)
  obtain ⟨rfl, hv2⟩ := hp2
  refine lv_pop hx hb dW_532 rfl ?_
  refine l_go C dW_533 (by decide) ?_
  exact kk x2 H2 locs2 hv2 hst2
set_option maxHeartbeats 2000000 in
theorem lk_9 (C : lCx p l s mid meth c b L xs dC dI cA q sv qo) (hL : L ≤ 3072) (hi : i + 6 ≤ L) (hls : lv_has ls 7 (lvL b q qo i)) (hst : lSt s dC dI cA q qo x H locs) (hv : Inv x) (hcs : cells ≤ 601024 ∧ slots ≤ 7293033) (kk : ∀ (x' : xM) (H1 : Heap) (locs1 : List Loc), Inv x' → lSt s dC dI cA q qo x' H1 locs1 → W p l e room_1 s mid #[Value.ref b] below meth c H1 locs1 cells slots Q (F0 mid 1601 ls [])) : W p l e room_1 s mid #[Value.ref b] below meth c H locs cells slots Q (F0 mid 536 ls []) := by
  obtain ⟨hx, hb, hr, hml, hown, hts, -⟩ := id C.1
  have hown : s.vm.findClass RL = some mid.cls := hown
  refine l_a1 C dW_536 hls ?_
  obtain ⟨XF, hx1, hm1⟩ := p_day  x hv
  refine l_call1 C (a := 0) (j := 113) (w := 817) (n := 0) (as := []) (rest := []) (d := 1200) dW_537 (by decide +kernel) rfl (by decide) (Nat.le_refl _) hx1 hls hst hcs (fun rv x1 H1 locs1 hp1 hst1 => ?_)
  obtain ⟨⟨z, rfl⟩, hp1⟩ := hp1
  refine lv_pop hx hb dW_540 rfl ?_
  refine l_a2 C dW_541 hls ?_
  refine l_call1 C (a := 314) (j := 212) (w := 1689) (n := 0) (as := []) (rest := []) (d := 1200) dW_542 (by decide +kernel) rfl (by decide) (Nat.le_refl _) (hm1 _ _ hp1) hls hst1 hcs (fun rv x2 H2 locs2 hp2 hst2 => ?_)
  obtain ⟨rfl, hv2⟩ := hp2
  refine lv_pop hx hb dW_545 rfl ?_
  refine l_go C dW_546 (by decide) ?_
  exact kk x2 H2 locs2 hv2 hst2
set_option maxHeartbeats 2000000 in
theorem lk_10 (C : lCx p l s mid meth c b L xs dC dI cA q sv qo) (hL : L ≤ 3072) (hi : i + 6 ≤ L) (hls : lv_has ls 7 (lvL b q qo i)) (hst : lSt s dC dI cA q qo x H locs) (hv : Inv x) (hcs : cells ≤ 601024 ∧ slots ≤ 7293033) (kk : ∀ (x' : xM) (H1 : Heap) (locs1 : List Loc), Inv x' → lSt s dC dI cA q qo x' H1 locs1 → W p l e room_1 s mid #[Value.ref b] below meth c H1 locs1 cells slots Q (F0 mid 1601 ls [])) : W p l e room_1 s mid #[Value.ref b] below meth c H locs cells slots Q (F0 mid 549 ls []) := by
  obtain ⟨hx, hb, hr, hml, hown, hts, -⟩ := id C.1
  have hown : s.vm.findClass RL = some mid.cls := hown
  refine l_a1 C dW_549 hls ?_
  refine l_arg C (k := 1) dW_550 dW_551 dW_553 dW_554 dW_555 (by decide) (by omega) hL hls hst ?_
  obtain ⟨XF, hx1, hm1⟩ := p_wall (xs (i + 1)) x hv
  refine l_call1 C (a := 0) (j := 115) (w := 930) (n := 1) (as := [.int (xs (i + 1))]) (rest := []) (d := 1200) dW_556 (by decide +kernel) rfl (by decide) (Nat.le_refl _) hx1 hls hst hcs (fun rv x1 H1 locs1 hp1 hst1 => ?_)
  obtain ⟨⟨z, rfl⟩, hp1⟩ := hp1
  refine lv_pop hx hb dW_559 rfl ?_
  refine l_a2 C dW_560 hls ?_
  refine l_arg C (k := 1) dW_561 dW_562 dW_564 dW_565 dW_566 (by decide) (by omega) hL hls hst1 ?_
  refine l_call1 C (a := 314) (j := 213) (w := 1740) (n := 1) (as := [.int (xs (i + 1))]) (rest := []) (d := 1200) dW_567 (by decide +kernel) rfl (by decide) (Nat.le_refl _) (hm1 _ _ hp1) hls hst1 hcs (fun rv x2 H2 locs2 hp2 hst2 => ?_)
  obtain ⟨rfl, hv2⟩ := hp2
  refine lv_pop hx hb dW_570 rfl ?_
  refine l_go C dW_571 (by decide) ?_
  exact kk x2 H2 locs2 hv2 hst2
set_option maxHeartbeats 2000000 in
theorem lk_11 (C : lCx p l s mid meth c b L xs dC dI cA q sv qo) (hL : L ≤ 3072) (hi : i + 6 ≤ L) (hls : lv_has ls 7 (lvL b q qo i)) (hst : lSt s dC dI cA q qo x H locs) (hv : Inv x) (hcs : cells ≤ 601024 ∧ slots ≤ 7293033) (kk : ∀ (x' : xM) (H1 : Heap) (locs1 : List Loc), Inv x' → lSt s dC dI cA q qo x' H1 locs1 → W p l e room_1 s mid #[Value.ref b] below meth c H1 locs1 cells slots Q (F0 mid 1601 ls [])) : W p l e room_1 s mid #[Value.ref b] below meth c H locs cells slots Q (F0 mid 574 ls []) := by
  obtain ⟨hx, hb, hr, hml, hown, hts, -⟩ := id C.1
  have hown : s.vm.findClass RL = some mid.cls := hown
  refine l_a1 C dW_574 hls ?_
  refine l_arg C (k := 1) dW_575 dW_576 dW_578 dW_579 dW_580 (by decide) (by omega) hL hls hst ?_
  obtain ⟨XF, hx1, hm1⟩ := p_lamp (xs (i + 1)) x hv
  refine l_call1 C (a := 0) (j := 116) (w := 934) (n := 1) (as := [.int (xs (i + 1))]) (rest := []) (d := 1200) dW_581 (by decide +kernel) rfl (by decide) (Nat.le_refl _) hx1 hls hst hcs (fun rv x1 H1 locs1 hp1 hst1 => ?_)
  obtain ⟨⟨z, rfl⟩, hp1⟩ := hp1
  refine lv_pop hx hb dW_584 rfl ?_
  refine l_a2 C dW_585 hls ?_
  refine l_arg C (k := 1) dW_586 dW_587 dW_589 dW_590 dW_591 (by decide) (by omega) hL hls hst1 ?_
  refine l_call1 C (a := 314) (j := 214) (w := 1748) (n := 1) (as := [.int (xs (i + 1))]) (rest := []) (d := 1200) dW_592 (by decide +kernel) rfl (by decide) (Nat.le_refl _) (hm1 _ _ hp1) hls hst1 hcs (fun rv x2 H2 locs2 hp2 hst2 => ?_)
  obtain ⟨rfl, hv2⟩ := hp2
  refine lv_pop hx hb dW_595 rfl ?_
  refine l_go C dW_596 (by decide) ?_
  exact kk x2 H2 locs2 hv2 hst2
set_option maxHeartbeats 2000000 in
theorem lk_12 (C : lCx p l s mid meth c b L xs dC dI cA q sv qo) (hL : L ≤ 3072) (hi : i + 6 ≤ L) (hls : lv_has ls 7 (lvL b q qo i)) (hst : lSt s dC dI cA q qo x H locs) (hv : Inv x) (hcs : cells ≤ 601024 ∧ slots ≤ 7293033) (kk : ∀ (x' : xM) (H1 : Heap) (locs1 : List Loc), Inv x' → lSt s dC dI cA q qo x' H1 locs1 → W p l e room_1 s mid #[Value.ref b] below meth c H1 locs1 cells slots Q (F0 mid 1601 ls [])) : W p l e room_1 s mid #[Value.ref b] below meth c H locs cells slots Q (F0 mid 599 ls []) := by
  obtain ⟨hx, hb, hr, hml, hown, hts, -⟩ := id C.1
  have hown : s.vm.findClass RL = some mid.cls := hown
  refine l_a1 C dW_599 hls ?_
  refine l_arg C (k := 1) dW_600 dW_601 dW_603 dW_604 dW_605 (by decide) (by omega) hL hls hst ?_
  refine l_arg C (k := 2) dW_606 dW_607 dW_609 dW_610 dW_611 (by decide) (by omega) hL hls hst ?_
  obtain ⟨XF, hx1, hm1⟩ := p_moves (xs (i + 1)) (xs (i + 2)) x hv
  refine l_call1 C (a := 0) (j := 117) (w := 938) (n := 2) (as := [.int (xs (i + 1)), .int (xs (i + 2))]) (rest := []) (d := 1200) dW_612 (by decide +kernel) rfl (by decide) (Nat.le_refl _) hx1 hls hst hcs (fun rv x1 H1 locs1 hp1 hst1 => ?_)
  obtain ⟨⟨z, rfl⟩, hp1⟩ := hp1
  refine lv_pop hx hb dW_615 rfl ?_
  refine l_a2 C dW_616 hls ?_
  refine l_arg C (k := 1) dW_617 dW_618 dW_620 dW_621 dW_622 (by decide) (by omega) hL hls hst1 ?_
  refine l_arg C (k := 2) dW_623 dW_624 dW_626 dW_627 dW_628 (by decide) (by omega) hL hls hst1 ?_
  refine l_call1 C (a := 314) (j := 215) (w := 1752) (n := 2) (as := [.int (xs (i + 1)), .int (xs (i + 2))]) (rest := []) (d := 1200) dW_629 (by decide +kernel) rfl (by decide) (Nat.le_refl _) (hm1 _ _ hp1) hls hst1 hcs (fun rv x2 H2 locs2 hp2 hst2 => ?_)
  obtain ⟨rfl, hv2⟩ := hp2
  refine lv_pop hx hb dW_632 rfl ?_
  refine l_go C dW_633 (by decide) ?_
  exact kk x2 H2 locs2 hv2 hst2
set_option maxHeartbeats 2000000 in
theorem lk_13 (C : lCx p l s mid meth c b L xs dC dI cA q sv qo) (hL : L ≤ 3072) (hi : i + 6 ≤ L) (hls : lv_has ls 7 (lvL b q qo i)) (hst : lSt s dC dI cA q qo x H locs) (hv : Inv x) (hcs : cells ≤ 601024 ∧ slots ≤ 7293033) (kk : ∀ (x' : xM) (H1 : Heap) (locs1 : List Loc), Inv x' → lSt s dC dI cA q qo x' H1 locs1 → W p l e room_1 s mid #[Value.ref b] below meth c H1 locs1 cells slots Q (F0 mid 1601 ls [])) : W p l e room_1 s mid #[Value.ref b] below meth c H locs cells slots Q (F0 mid 636 ls []) := by
  obtain ⟨hx, hb, hr, hml, hown, hts, -⟩ := id C.1
  have hown : s.vm.findClass RL = some mid.cls := hown
  refine l_a1 C dW_636 hls ?_
  refine l_arg C (k := 1) dW_637 dW_638 dW_640 dW_641 dW_642 (by decide) (by omega) hL hls hst ?_
  obtain ⟨XF, hx1, hm1⟩ := p_preach (xs (i + 1)) x hv
  refine l_call1 C (a := 0) (j := 118) (w := 946) (n := 1) (as := [.int (xs (i + 1))]) (rest := []) (d := 1200) dW_643 (by decide +kernel) rfl (by decide) (Nat.le_refl _) hx1 hls hst hcs (fun rv x1 H1 locs1 hp1 hst1 => ?_)
  obtain ⟨⟨z, rfl⟩, hp1⟩ := hp1
  refine lv_pop hx hb dW_646 rfl ?_
  refine l_a2 C dW_647 hls ?_
  refine l_arg C (k := 1) dW_648 dW_649 dW_651 dW_652 dW_653 (by decide) (by omega) hL hls hst1 ?_
  refine l_call1 C (a := 314) (j := 216) (w := 1756) (n := 1) (as := [.int (xs (i + 1))]) (rest := []) (d := 1200) dW_654 (by decide +kernel) rfl (by decide) (Nat.le_refl _) (hm1 _ _ hp1) hls hst1 hcs (fun rv x2 H2 locs2 hp2 hst2 => ?_)
  obtain ⟨rfl, hv2⟩ := hp2
  refine lv_pop hx hb dW_657 rfl ?_
  refine l_go C dW_658 (by decide) ?_
  exact kk x2 H2 locs2 hv2 hst2
set_option maxHeartbeats 2000000 in
theorem lk_14 (C : lCx p l s mid meth c b L xs dC dI cA q sv qo) (hL : L ≤ 3072) (hi : i + 6 ≤ L) (hls : lv_has ls 7 (lvL b q qo i)) (hst : lSt s dC dI cA q qo x H locs) (hv : Inv x) (hcs : cells ≤ 601024 ∧ slots ≤ 7293033) (kk : ∀ (x' : xM) (H1 : Heap) (locs1 : List Loc), Inv x' → lSt s dC dI cA q qo x' H1 locs1 → W p l e room_1 s mid #[Value.ref b] below meth c H1 locs1 cells slots Q (F0 mid 1601 ls [])) : W p l e room_1 s mid #[Value.ref b] below meth c H locs cells slots Q (F0 mid 661 ls []) := by
  obtain ⟨hx, hb, hr, hml, hown, hts, -⟩ := id C.1
  have hown : s.vm.findClass RL = some mid.cls := hown
  refine l_a1 C dW_661 hls ?_
  refine l_arg C (k := 1) dW_662 dW_663 dW_665 dW_666 dW_667 (by decide) (by omega) hL hls hst ?_
  obtain ⟨XF, hx1, hm1⟩ := p_give (xs (i + 1)) x hv
  refine l_call1 C (a := 0) (j := 119) (w := 950) (n := 1) (as := [.int (xs (i + 1))]) (rest := []) (d := 1200) dW_668 (by decide +kernel) rfl (by decide) (Nat.le_refl _) hx1 hls hst hcs (fun rv x1 H1 locs1 hp1 hst1 => ?_)
  obtain ⟨⟨z, rfl⟩, hp1⟩ := hp1
  refine lv_pop hx hb dW_671 rfl ?_
  refine l_a2 C dW_672 hls ?_
  refine l_arg C (k := 1) dW_673 dW_674 dW_676 dW_677 dW_678 (by decide) (by omega) hL hls hst1 ?_
  refine l_call1 C (a := 314) (j := 217) (w := 1760) (n := 1) (as := [.int (xs (i + 1))]) (rest := []) (d := 1200) dW_679 (by decide +kernel) rfl (by decide) (Nat.le_refl _) (hm1 _ _ hp1) hls hst1 hcs (fun rv x2 H2 locs2 hp2 hst2 => ?_)
  obtain ⟨rfl, hv2⟩ := hp2
  refine lv_pop hx hb dW_682 rfl ?_
  refine l_go C dW_683 (by decide) ?_
  exact kk x2 H2 locs2 hv2 hst2
set_option maxHeartbeats 2000000 in
theorem lk_15 (C : lCx p l s mid meth c b L xs dC dI cA q sv qo) (hL : L ≤ 3072) (hi : i + 6 ≤ L) (hls : lv_has ls 7 (lvL b q qo i)) (hst : lSt s dC dI cA q qo x H locs) (hv : Inv x) (hcs : cells ≤ 601024 ∧ slots ≤ 7293033) (kk : ∀ (x' : xM) (H1 : Heap) (locs1 : List Loc), Inv x' → lSt s dC dI cA q qo x' H1 locs1 → W p l e room_1 s mid #[Value.ref b] below meth c H1 locs1 cells slots Q (F0 mid 1601 ls [])) : W p l e room_1 s mid #[Value.ref b] below meth c H locs cells slots Q (F0 mid 686 ls []) := by
  obtain ⟨hx, hb, hr, hml, hown, hts, -⟩ := id C.1
  have hown : s.vm.findClass RL = some mid.cls := hown
  refine l_a1 C dW_686 hls ?_
  refine l_arg C (k := 1) dW_687 dW_688 dW_690 dW_691 dW_692 (by decide) (by omega) hL hls hst ?_
  refine l_arg C (k := 2) dW_693 dW_694 dW_696 dW_697 dW_698 (by decide) (by omega) hL hls hst ?_
  refine lv_i2l (v := (xs (i + 2)).toInt64) hx hb dW_699 rfl ?_
  refine lv_bipush (v := 32) hx hb dW_700 (by decide) ?_
  refine lv_lshl (v := ((xs (i + 2)).toInt64) <<< ((32 : Int32).toInt64 &&& 63)) hx hb dW_702 rfl ?_
  refine l_arg C (k := 3) dW_703 dW_704 dW_706 dW_707 dW_708 (by decide) (by omega) hL hls hst ?_
  refine lv_i2l (v := (xs (i + 3)).toInt64) hx hb dW_709 rfl ?_
  refine lv_ldc2 hx hb hown (hts (.constantLong "WallChapelsLaw" 85 4294967295) (lwA_in (i := 1962) (by decide +kernel))) dW_710 ?_
  refine lv_land hx hb dW_713 ?_
  refine lv_lor hx hb dW_714 ?_
  obtain ⟨XF, hx1, hm1⟩ := p_years (xs (i + 1)) ((((xs (i + 2)).toInt64) <<< ((32 : Int32).toInt64 &&& 63)) ||| (((xs (i + 3)).toInt64) &&& 4294967295)) x hv
  refine l_call1 C (a := 0) (j := 120) (w := 954) (n := 2) (as := [.int (xs (i + 1)), .long ((((xs (i + 2)).toInt64) <<< ((32 : Int32).toInt64 &&& 63)) ||| (((xs (i + 3)).toInt64) &&& 4294967295))]) (rest := []) (d := 1200) dW_715 (by decide +kernel) rfl (by decide) (Nat.le_refl _) hx1 hls hst hcs (fun rv x1 H1 locs1 hp1 hst1 => ?_)
  obtain ⟨⟨z, rfl⟩, hp1⟩ := hp1
  refine lv_pop hx hb dW_718 rfl ?_
  refine l_a2 C dW_719 hls ?_
  refine l_arg C (k := 1) dW_720 dW_721 dW_723 dW_724 dW_725 (by decide) (by omega) hL hls hst1 ?_
  refine l_arg C (k := 2) dW_726 dW_727 dW_729 dW_730 dW_731 (by decide) (by omega) hL hls hst1 ?_
  refine lv_i2l (v := (xs (i + 2)).toInt64) hx hb dW_732 rfl ?_
  refine lv_bipush (v := 32) hx hb dW_733 (by decide) ?_
  refine lv_lshl (v := ((xs (i + 2)).toInt64) <<< ((32 : Int32).toInt64 &&& 63)) hx hb dW_735 rfl ?_
  refine l_arg C (k := 3) dW_736 dW_737 dW_739 dW_740 dW_741 (by decide) (by omega) hL hls hst1 ?_
  refine lv_i2l (v := (xs (i + 3)).toInt64) hx hb dW_742 rfl ?_
  refine lv_ldc2 hx hb hown (hts (.constantLong "WallChapelsLaw" 85 4294967295) (lwA_in (i := 1962) (by decide +kernel))) dW_743 ?_
  refine lv_land hx hb dW_746 ?_
  refine lv_lor hx hb dW_747 ?_
  refine l_call1 C (a := 314) (j := 219) (w := 1765) (n := 2) (as := [.int (xs (i + 1)), .long ((((xs (i + 2)).toInt64) <<< ((32 : Int32).toInt64 &&& 63)) ||| (((xs (i + 3)).toInt64) &&& 4294967295))]) (rest := []) (d := 1200) dW_748 (by decide +kernel) rfl (by decide) (Nat.le_refl _) (hm1 _ _ hp1) hls hst1 hcs (fun rv x2 H2 locs2 hp2 hst2 => ?_)
  obtain ⟨rfl, hv2⟩ := hp2
  refine lv_pop hx hb dW_751 rfl ?_
  refine l_go C dW_752 (by decide) ?_
  exact kk x2 H2 locs2 hv2 hst2
set_option maxHeartbeats 2000000 in
theorem lk_16 (C : lCx p l s mid meth c b L xs dC dI cA q sv qo) (hL : L ≤ 3072) (hi : i + 6 ≤ L) (hls : lv_has ls 7 (lvL b q qo i)) (hst : lSt s dC dI cA q qo x H locs) (hv : Inv x) (hcs : cells ≤ 601024 ∧ slots ≤ 7293033) (kk : ∀ (x' : xM) (H1 : Heap) (locs1 : List Loc), Inv x' → lSt s dC dI cA q qo x' H1 locs1 → W p l e room_1 s mid #[Value.ref b] below meth c H1 locs1 cells slots Q (F0 mid 1601 ls [])) : W p l e room_1 s mid #[Value.ref b] below meth c H locs cells slots Q (F0 mid 755 ls []) := by
  obtain ⟨hx, hb, hr, hml, hown, hts, -⟩ := id C.1
  have hown : s.vm.findClass RL = some mid.cls := hown
  refine l_a1 C dW_755 hls ?_
  obtain ⟨XF, hx1, hm1⟩ := p_undo  x hv
  refine l_call1 C (a := 0) (j := 123) (w := 966) (n := 0) (as := []) (rest := []) (d := 1200) dW_756 (by decide +kernel) rfl (by decide) (Nat.le_refl _) hx1 hls hst hcs (fun rv x1 H1 locs1 hp1 hst1 => ?_)
  obtain ⟨⟨z, rfl⟩, hp1⟩ := hp1
  refine lv_pop hx hb dW_759 rfl ?_
  refine l_a2 C dW_760 hls ?_
  refine l_call1 C (a := 314) (j := 220) (w := 1776) (n := 0) (as := []) (rest := []) (d := 1200) dW_761 (by decide +kernel) rfl (by decide) (Nat.le_refl _) (hm1 _ _ hp1) hls hst1 hcs (fun rv x2 H2 locs2 hp2 hst2 => ?_)
  obtain ⟨rfl, hv2⟩ := hp2
  refine lv_pop hx hb dW_764 rfl ?_
  refine l_go C dW_765 (by decide) ?_
  exact kk x2 H2 locs2 hv2 hst2
set_option maxHeartbeats 2000000 in
theorem lk_17 (C : lCx p l s mid meth c b L xs dC dI cA q sv qo) (hL : L ≤ 3072) (hi : i + 6 ≤ L) (hls : lv_has ls 7 (lvL b q qo i)) (hst : lSt s dC dI cA q qo x H locs) (hv : Inv x) (hcs : cells ≤ 601024 ∧ slots ≤ 7293033) (kk : ∀ (x' : xM) (H1 : Heap) (locs1 : List Loc), Inv x' → lSt s dC dI cA q qo x' H1 locs1 → W p l e room_1 s mid #[Value.ref b] below meth c H1 locs1 cells slots Q (F0 mid 1601 ls [])) : W p l e room_1 s mid #[Value.ref b] below meth c H locs cells slots Q (F0 mid 768 ls []) := by
  obtain ⟨hx, hb, hr, hml, hown, hts, -⟩ := id C.1
  have hown : s.vm.findClass RL = some mid.cls := hown
  refine l_a1 C dW_768 hls ?_
  refine l_arg C (k := 1) dW_769 dW_770 dW_772 dW_773 dW_774 (by decide) (by omega) hL hls hst ?_
  refine l_arg C (k := 2) dW_775 dW_776 dW_778 dW_779 dW_780 (by decide) (by omega) hL hls hst ?_
  refine l_cp C (a := 0) (idx := 96) (w := 974) (n := 2) (vs := [.int (xs (i + 1)), .int (xs (i + 2))]) q215 (by decide) dW_781 dW_784 (by decide +kernel) rfl (by decide +kernel) (by decide +kernel) (fun z => trivial) ⟨aI_any _, aI_any _, trivial⟩ hv hls hst hcs (fun x1 H1 locs1 hv1 hst1 => ?_)
  refine l_a2 C dW_785 hls ?_
  refine l_arg C (k := 1) dW_786 dW_787 dW_789 dW_790 dW_791 (by decide) (by omega) hL hls hst1 ?_
  refine l_arg C (k := 2) dW_792 dW_793 dW_795 dW_796 dW_797 (by decide) (by omega) hL hls hst1 ?_
  refine l_cp C (a := 314) (idx := 99) (w := 1780) (n := 2) (vs := [.int (xs (i + 1)), .int (xs (i + 2))]) r142 (by decide) dW_798 dW_801 (by decide +kernel) rfl (by decide +kernel) (by decide +kernel) (fun z => z.2.1) ⟨aI_any _, aI_any _, trivial⟩ hv1 hls hst1 hcs (fun x2 H2 locs2 hv2 hst2 => ?_)
  refine l_go C dW_802 (by decide) ?_
  exact kk x2 H2 locs2 hv2 hst2
set_option maxHeartbeats 2000000 in
theorem lk_18 (C : lCx p l s mid meth c b L xs dC dI cA q sv qo) (hL : L ≤ 3072) (hi : i + 6 ≤ L) (hls : lv_has ls 7 (lvL b q qo i)) (hst : lSt s dC dI cA q qo x H locs) (hv : Inv x) (hcs : cells ≤ 601024 ∧ slots ≤ 7293033) (kk : ∀ (x' : xM) (H1 : Heap) (locs1 : List Loc), Inv x' → lSt s dC dI cA q qo x' H1 locs1 → W p l e room_1 s mid #[Value.ref b] below meth c H1 locs1 cells slots Q (F0 mid 1601 ls [])) : W p l e room_1 s mid #[Value.ref b] below meth c H locs cells slots Q (F0 mid 805 ls []) := by
  obtain ⟨hx, hb, hr, hml, hown, hts, -⟩ := id C.1
  have hown : s.vm.findClass RL = some mid.cls := hown
  refine l_a1 C dW_805 hls ?_
  refine l_arg C (k := 1) dW_806 dW_807 dW_809 dW_810 dW_811 (by decide) (by omega) hL hls hst ?_
  refine l_arg C (k := 2) dW_812 dW_813 dW_815 dW_816 dW_817 (by decide) (by omega) hL hls hst ?_
  obtain ⟨XF, hx1, hm1⟩ := p_walk (xs (i + 1)) (xs (i + 2)) x hv
  refine l_call1 C (a := 0) (j := 128) (w := 996) (n := 2) (as := [.int (xs (i + 1)), .int (xs (i + 2))]) (rest := []) (d := 1200) dW_818 (by decide +kernel) rfl (by decide) (Nat.le_refl _) hx1 hls hst hcs (fun rv x1 H1 locs1 hp1 hst1 => ?_)
  obtain ⟨⟨z, rfl⟩, hp1⟩ := hp1
  refine lv_pop hx hb dW_821 rfl ?_
  refine l_a2 C dW_822 hls ?_
  refine l_arg C (k := 1) dW_823 dW_824 dW_826 dW_827 dW_828 (by decide) (by omega) hL hls hst1 ?_
  refine l_arg C (k := 2) dW_829 dW_830 dW_832 dW_833 dW_834 (by decide) (by omega) hL hls hst1 ?_
  refine l_call1 C (a := 314) (j := 223) (w := 1784) (n := 2) (as := [.int (xs (i + 1)), .int (xs (i + 2))]) (rest := []) (d := 1200) dW_835 (by decide +kernel) rfl (by decide) (Nat.le_refl _) (hm1 _ _ hp1) hls hst1 hcs (fun rv x2 H2 locs2 hp2 hst2 => ?_)
  obtain ⟨rfl, hv2⟩ := hp2
  refine lv_pop hx hb dW_838 rfl ?_
  refine l_go C dW_839 (by decide) ?_
  exact kk x2 H2 locs2 hv2 hst2
set_option maxHeartbeats 2000000 in
theorem lk_19 (C : lCx p l s mid meth c b L xs dC dI cA q sv qo) (hL : L ≤ 3072) (hi : i + 6 ≤ L) (hls : lv_has ls 7 (lvL b q qo i)) (hst : lSt s dC dI cA q qo x H locs) (hv : Inv x) (hcs : cells ≤ 601024 ∧ slots ≤ 7293033) (kk : ∀ (x' : xM) (H1 : Heap) (locs1 : List Loc), Inv x' → lSt s dC dI cA q qo x' H1 locs1 → W p l e room_1 s mid #[Value.ref b] below meth c H1 locs1 cells slots Q (F0 mid 1601 ls [])) : W p l e room_1 s mid #[Value.ref b] below meth c H locs cells slots Q (F0 mid 842 ls []) := by
  obtain ⟨hx, hb, hr, hml, hown, hts, -⟩ := id C.1
  have hown : s.vm.findClass RL = some mid.cls := hown
  refine l_a1 C dW_842 hls ?_
  refine l_arg C (k := 1) dW_843 dW_844 dW_846 dW_847 dW_848 (by decide) (by omega) hL hls hst ?_
  refine l_arg C (k := 2) dW_849 dW_850 dW_852 dW_853 dW_854 (by decide) (by omega) hL hls hst ?_
  refine l_cp C (a := 0) (idx := 104) (w := 1000) (n := 2) (vs := [.int (xs (i + 1)), .int (xs (i + 2))]) q225 (by decide) dW_855 dW_858 (by decide +kernel) rfl (by decide +kernel) (by decide +kernel) (fun z => trivial) ⟨aI_any _, aI_any _, trivial⟩ hv hls hst hcs (fun x1 H1 locs1 hv1 hst1 => ?_)
  refine l_a2 C dW_859 hls ?_
  refine l_arg C (k := 1) dW_860 dW_861 dW_863 dW_864 dW_865 (by decide) (by omega) hL hls hst1 ?_
  refine l_arg C (k := 2) dW_866 dW_867 dW_869 dW_870 dW_871 (by decide) (by omega) hL hls hst1 ?_
  refine l_cp C (a := 314) (idx := 107) (w := 1793) (n := 2) (vs := [.int (xs (i + 1)), .int (xs (i + 2))]) r147 (by decide) dW_872 dW_875 (by decide +kernel) rfl (by decide +kernel) (by decide +kernel) (fun z => z.2.1) ⟨aI_any _, aI_any _, trivial⟩ hv1 hls hst1 hcs (fun x2 H2 locs2 hv2 hst2 => ?_)
  refine l_go C dW_876 (by decide) ?_
  exact kk x2 H2 locs2 hv2 hst2
set_option maxHeartbeats 2000000 in
theorem lk_20 (C : lCx p l s mid meth c b L xs dC dI cA q sv qo) (hL : L ≤ 3072) (hi : i + 6 ≤ L) (hls : lv_has ls 7 (lvL b q qo i)) (hst : lSt s dC dI cA q qo x H locs) (hv : Inv x) (hcs : cells ≤ 601024 ∧ slots ≤ 7293033) (kk : ∀ (x' : xM) (H1 : Heap) (locs1 : List Loc), Inv x' → lSt s dC dI cA q qo x' H1 locs1 → W p l e room_1 s mid #[Value.ref b] below meth c H1 locs1 cells slots Q (F0 mid 1601 ls [])) : W p l e room_1 s mid #[Value.ref b] below meth c H locs cells slots Q (F0 mid 879 ls []) := by
  obtain ⟨hx, hb, hr, hml, hown, hts, -⟩ := id C.1
  have hown : s.vm.findClass RL = some mid.cls := hown
  refine l_a1 C dW_879 hls ?_
  refine l_arg C (k := 1) dW_880 dW_881 dW_883 dW_884 dW_885 (by decide) (by omega) hL hls hst ?_
  refine l_arg C (k := 2) dW_886 dW_887 dW_889 dW_890 dW_891 (by decide) (by omega) hL hls hst ?_
  refine l_cp C (a := 0) (idx := 108) (w := 1012) (n := 2) (vs := [.int (xs (i + 1)), .int (xs (i + 2))]) q226 (by decide) dW_892 dW_895 (by decide +kernel) rfl (by decide +kernel) (by decide +kernel) (fun z => trivial) ⟨aI_any _, aI_any _, trivial⟩ hv hls hst hcs (fun x1 H1 locs1 hv1 hst1 => ?_)
  refine l_a2 C dW_896 hls ?_
  refine l_arg C (k := 1) dW_897 dW_898 dW_900 dW_901 dW_902 (by decide) (by omega) hL hls hst1 ?_
  refine l_arg C (k := 2) dW_903 dW_904 dW_906 dW_907 dW_908 (by decide) (by omega) hL hls hst1 ?_
  refine l_cp C (a := 314) (idx := 111) (w := 1801) (n := 2) (vs := [.int (xs (i + 1)), .int (xs (i + 2))]) r148 (by decide) dW_909 dW_912 (by decide +kernel) rfl (by decide +kernel) (by decide +kernel) (fun z => z.2.1) ⟨aI_any _, aI_any _, trivial⟩ hv1 hls hst1 hcs (fun x2 H2 locs2 hv2 hst2 => ?_)
  refine l_go C dW_913 (by decide) ?_
  exact kk x2 H2 locs2 hv2 hst2
set_option maxHeartbeats 2000000 in
theorem lk_21 (C : lCx p l s mid meth c b L xs dC dI cA q sv qo) (hL : L ≤ 3072) (hi : i + 6 ≤ L) (hls : lv_has ls 7 (lvL b q qo i)) (hst : lSt s dC dI cA q qo x H locs) (hv : Inv x) (hcs : cells ≤ 601024 ∧ slots ≤ 7293033) (kk : ∀ (x' : xM) (H1 : Heap) (locs1 : List Loc), Inv x' → lSt s dC dI cA q qo x' H1 locs1 → W p l e room_1 s mid #[Value.ref b] below meth c H1 locs1 cells slots Q (F0 mid 1601 ls [])) : W p l e room_1 s mid #[Value.ref b] below meth c H locs cells slots Q (F0 mid 916 ls []) := by
  obtain ⟨hx, hb, hr, hml, hown, hts, -⟩ := id C.1
  have hown : s.vm.findClass RL = some mid.cls := hown
  refine l_a1 C dW_916 hls ?_
  refine l_arg C (k := 1) dW_917 dW_918 dW_920 dW_921 dW_922 (by decide) (by omega) hL hls hst ?_
  refine l_arg C (k := 2) dW_923 dW_924 dW_926 dW_927 dW_928 (by decide) (by omega) hL hls hst ?_
  refine l_cp C (a := 0) (idx := 112) (w := 1018) (n := 2) (vs := [.int (xs (i + 1)), .int (xs (i + 2))]) q229 (by decide) dW_929 dW_932 (by decide +kernel) rfl (by decide +kernel) (by decide +kernel) (fun z => trivial) ⟨aI_any _, aI_any _, trivial⟩ hv hls hst hcs (fun x1 H1 locs1 hv1 hst1 => ?_)
  refine l_a2 C dW_933 hls ?_
  refine l_arg C (k := 1) dW_934 dW_935 dW_937 dW_938 dW_939 (by decide) (by omega) hL hls hst1 ?_
  refine l_arg C (k := 2) dW_940 dW_941 dW_943 dW_944 dW_945 (by decide) (by omega) hL hls hst1 ?_
  refine l_cp C (a := 314) (idx := 115) (w := 1805) (n := 2) (vs := [.int (xs (i + 1)), .int (xs (i + 2))]) r149 (by decide) dW_946 dW_949 (by decide +kernel) rfl (by decide +kernel) (by decide +kernel) (fun z => z.2.1) ⟨aI_any _, aI_any _, trivial⟩ hv1 hls hst1 hcs (fun x2 H2 locs2 hv2 hst2 => ?_)
  refine l_go C dW_950 (by decide) ?_
  exact kk x2 H2 locs2 hv2 hst2
set_option maxHeartbeats 2000000 in
theorem lk_22 (C : lCx p l s mid meth c b L xs dC dI cA q sv qo) (hL : L ≤ 3072) (hi : i + 6 ≤ L) (hls : lv_has ls 7 (lvL b q qo i)) (hst : lSt s dC dI cA q qo x H locs) (hv : Inv x) (hcs : cells ≤ 601024 ∧ slots ≤ 7293033) (kk : ∀ (x' : xM) (H1 : Heap) (locs1 : List Loc), Inv x' → lSt s dC dI cA q qo x' H1 locs1 → W p l e room_1 s mid #[Value.ref b] below meth c H1 locs1 cells slots Q (F0 mid 1601 ls [])) : W p l e room_1 s mid #[Value.ref b] below meth c H locs cells slots Q (F0 mid 953 ls []) := by
  obtain ⟨hx, hb, hr, hml, hown, hts, -⟩ := id C.1
  have hown : s.vm.findClass RL = some mid.cls := hown
  refine l_a1 C dW_953 hls ?_
  refine l_arg C (k := 1) dW_954 dW_955 dW_957 dW_958 dW_959 (by decide) (by omega) hL hls hst ?_
  refine l_arg C (k := 2) dW_960 dW_961 dW_963 dW_964 dW_965 (by decide) (by omega) hL hls hst ?_
  refine l_cp C (a := 0) (idx := 116) (w := 1030) (n := 2) (vs := [.int (xs (i + 1)), .int (xs (i + 2))]) q240 (by decide) dW_966 dW_969 (by decide +kernel) rfl (by decide +kernel) (by decide +kernel) (fun z => trivial) ⟨aI_any _, aI_any _, trivial⟩ hv hls hst hcs (fun x1 H1 locs1 hv1 hst1 => ?_)
  refine l_a2 C dW_970 hls ?_
  refine l_arg C (k := 1) dW_971 dW_972 dW_974 dW_975 dW_976 (by decide) (by omega) hL hls hst1 ?_
  refine l_arg C (k := 2) dW_977 dW_978 dW_980 dW_981 dW_982 (by decide) (by omega) hL hls hst1 ?_
  refine l_cp C (a := 314) (idx := 119) (w := 1813) (n := 2) (vs := [.int (xs (i + 1)), .int (xs (i + 2))]) r150 (by decide) dW_983 dW_986 (by decide +kernel) rfl (by decide +kernel) (by decide +kernel) (fun z => z.2.1) ⟨aI_any _, aI_any _, trivial⟩ hv1 hls hst1 hcs (fun x2 H2 locs2 hv2 hst2 => ?_)
  refine l_go C dW_987 (by decide) ?_
  exact kk x2 H2 locs2 hv2 hst2
set_option maxHeartbeats 2000000 in
theorem lk_23 (C : lCx p l s mid meth c b L xs dC dI cA q sv qo) (hL : L ≤ 3072) (hi : i + 6 ≤ L) (hls : lv_has ls 7 (lvL b q qo i)) (hst : lSt s dC dI cA q qo x H locs) (hv : Inv x) (hcs : cells ≤ 601024 ∧ slots ≤ 7293033) (kk : ∀ (x' : xM) (H1 : Heap) (locs1 : List Loc), Inv x' → lSt s dC dI cA q qo x' H1 locs1 → W p l e room_1 s mid #[Value.ref b] below meth c H1 locs1 cells slots Q (F0 mid 1601 ls [])) : W p l e room_1 s mid #[Value.ref b] below meth c H locs cells slots Q (F0 mid 990 ls []) := by
  obtain ⟨hx, hb, hr, hml, hown, hts, -⟩ := id C.1
  have hown : s.vm.findClass RL = some mid.cls := hown
  refine l_a1 C dW_990 hls ?_
  refine l_arg C (k := 1) dW_991 dW_992 dW_994 dW_995 dW_996 (by decide) (by omega) hL hls hst ?_
  refine l_cp C (a := 0) (idx := 120) (w := 1067) (n := 1) (vs := [.int (xs (i + 1))]) q248 (by decide) dW_997 dW_1000 (by decide +kernel) rfl (by decide +kernel) (by decide +kernel) (fun z => trivial) ⟨aI_any _, trivial⟩ hv hls hst hcs (fun x1 H1 locs1 hv1 hst1 => ?_)
  refine l_a2 C dW_1001 hls ?_
  refine l_arg C (k := 1) dW_1002 dW_1003 dW_1005 dW_1006 dW_1007 (by decide) (by omega) hL hls hst1 ?_
  refine l_cp C (a := 314) (idx := 123) (w := 1821) (n := 1) (vs := [.int (xs (i + 1))]) r155 (by decide) dW_1008 dW_1011 (by decide +kernel) rfl (by decide +kernel) (by decide +kernel) (fun z => z.2.1) ⟨aI_any _, trivial⟩ hv1 hls hst1 hcs (fun x2 H2 locs2 hv2 hst2 => ?_)
  refine l_go C dW_1012 (by decide) ?_
  exact kk x2 H2 locs2 hv2 hst2
set_option maxHeartbeats 2000000 in
theorem lk_24 (C : lCx p l s mid meth c b L xs dC dI cA q sv qo) (hL : L ≤ 3072) (hi : i + 6 ≤ L) (hls : lv_has ls 7 (lvL b q qo i)) (hst : lSt s dC dI cA q qo x H locs) (hv : Inv x) (hcs : cells ≤ 601024 ∧ slots ≤ 7293033) (kk : ∀ (x' : xM) (H1 : Heap) (locs1 : List Loc), Inv x' → lSt s dC dI cA q qo x' H1 locs1 → W p l e room_1 s mid #[Value.ref b] below meth c H1 locs1 cells slots Q (F0 mid 1601 ls [])) : W p l e room_1 s mid #[Value.ref b] below meth c H locs cells slots Q (F0 mid 1015 ls []) := by
  obtain ⟨hx, hb, hr, hml, hown, hts, -⟩ := id C.1
  have hown : s.vm.findClass RL = some mid.cls := hown
  refine l_a1 C dW_1015 hls ?_
  refine l_arg C (k := 1) dW_1016 dW_1017 dW_1019 dW_1020 dW_1021 (by decide) (by omega) hL hls hst ?_
  refine l_arg C (k := 2) dW_1022 dW_1023 dW_1025 dW_1026 dW_1027 (by decide) (by omega) hL hls hst ?_
  refine l_cp C (a := 0) (idx := 124) (w := 1071) (n := 2) (vs := [.int (xs (i + 1)), .int (xs (i + 2))]) q249 (by decide) dW_1028 dW_1031 (by decide +kernel) rfl (by decide +kernel) (by decide +kernel) (fun z => trivial) ⟨aI_any _, aI_any _, trivial⟩ hv hls hst hcs (fun x1 H1 locs1 hv1 hst1 => ?_)
  refine l_a2 C dW_1032 hls ?_
  refine l_arg C (k := 1) dW_1033 dW_1034 dW_1036 dW_1037 dW_1038 (by decide) (by omega) hL hls hst1 ?_
  refine l_arg C (k := 2) dW_1039 dW_1040 dW_1042 dW_1043 dW_1044 (by decide) (by omega) hL hls hst1 ?_
  refine l_cp C (a := 314) (idx := 127) (w := 1828) (n := 2) (vs := [.int (xs (i + 1)), .int (xs (i + 2))]) r157 (by decide) dW_1045 dW_1048 (by decide +kernel) rfl (by decide +kernel) (by decide +kernel) (fun z => z.2.1) ⟨aI_any _, aI_any _, trivial⟩ hv1 hls hst1 hcs (fun x2 H2 locs2 hv2 hst2 => ?_)
  refine l_go C dW_1049 (by decide) ?_
  exact kk x2 H2 locs2 hv2 hst2
set_option maxHeartbeats 2000000 in
theorem lk_25 (C : lCx p l s mid meth c b L xs dC dI cA q sv qo) (hL : L ≤ 3072) (hi : i + 6 ≤ L) (hls : lv_has ls 7 (lvL b q qo i)) (hst : lSt s dC dI cA q qo x H locs) (hv : Inv x) (hcs : cells ≤ 601024 ∧ slots ≤ 7293033) (kk : ∀ (x' : xM) (H1 : Heap) (locs1 : List Loc), Inv x' → lSt s dC dI cA q qo x' H1 locs1 → W p l e room_1 s mid #[Value.ref b] below meth c H1 locs1 cells slots Q (F0 mid 1601 ls [])) : W p l e room_1 s mid #[Value.ref b] below meth c H locs cells slots Q (F0 mid 1052 ls []) := by
  obtain ⟨hx, hb, hr, hml, hown, hts, -⟩ := id C.1
  have hown : s.vm.findClass RL = some mid.cls := hown
  refine l_a1 C dW_1052 hls ?_
  refine l_arg C (k := 1) dW_1053 dW_1054 dW_1056 dW_1057 dW_1058 (by decide) (by omega) hL hls hst ?_
  refine l_arg C (k := 2) dW_1059 dW_1060 dW_1062 dW_1063 dW_1064 (by decide) (by omega) hL hls hst ?_
  refine lv_tern (a := 1) (b := 0) hx hb dW_1065 (by decide) dW_1068 (by decide) dW_1069 (by decide) dW_1072 (by decide) rfl (fun y1 ey1 => ?_)
  obtain ⟨XF, hx1, hm1⟩ := p_seen (xs (i + 1)) y1 (bo_t ey1) x hv
  refine l_call1 C (a := 0) (j := 136) (w := 1075) (n := 2) (as := [.int (xs (i + 1)), .int y1]) (rest := []) (d := 1200) dW_1073 (by decide +kernel) rfl (by decide) (Nat.le_refl _) hx1 hls hst hcs (fun rv x1 H1 locs1 hp1 hst1 => ?_)
  obtain ⟨⟨z, rfl⟩, hp1⟩ := hp1
  refine lv_pop hx hb dW_1076 rfl ?_
  refine l_a2 C dW_1077 hls ?_
  refine l_arg C (k := 1) dW_1078 dW_1079 dW_1081 dW_1082 dW_1083 (by decide) (by omega) hL hls hst1 ?_
  refine l_arg C (k := 2) dW_1084 dW_1085 dW_1087 dW_1088 dW_1089 (by decide) (by omega) hL hls hst1 ?_
  refine lv_tern (a := 1) (b := 0) hx hb dW_1090 (by decide) dW_1093 (by decide) dW_1094 (by decide) dW_1097 (by decide) rfl (fun y2 ey2 => ?_)
  rw [show y2 = y1 by rw [ey2, ey1]]
  refine l_call1 C (a := 314) (j := 233) (w := 1833) (n := 2) (as := [.int (xs (i + 1)), .int y1]) (rest := []) (d := 1200) dW_1098 (by decide +kernel) rfl (by decide) (Nat.le_refl _) (hm1 _ _ hp1) hls hst1 hcs (fun rv x2 H2 locs2 hp2 hst2 => ?_)
  obtain ⟨rfl, hv2⟩ := hp2
  refine lv_pop hx hb dW_1101 rfl ?_
  refine l_go C dW_1102 (by decide) ?_
  exact kk x2 H2 locs2 hv2 hst2
set_option maxHeartbeats 2000000 in
theorem lk_26 (C : lCx p l s mid meth c b L xs dC dI cA q sv qo) (hL : L ≤ 3072) (hi : i + 6 ≤ L) (hls : lv_has ls 7 (lvL b q qo i)) (hst : lSt s dC dI cA q qo x H locs) (hv : Inv x) (hcs : cells ≤ 601024 ∧ slots ≤ 7293033) (kk : ∀ (x' : xM) (H1 : Heap) (locs1 : List Loc), Inv x' → lSt s dC dI cA q qo x' H1 locs1 → W p l e room_1 s mid #[Value.ref b] below meth c H1 locs1 cells slots Q (F0 mid 1601 ls [])) : W p l e room_1 s mid #[Value.ref b] below meth c H locs cells slots Q (F0 mid 1105 ls []) := by
  obtain ⟨hx, hb, hr, hml, hown, hts, -⟩ := id C.1
  have hown : s.vm.findClass RL = some mid.cls := hown
  refine l_a1 C dW_1105 hls ?_
  refine l_arg C (k := 1) dW_1106 dW_1107 dW_1109 dW_1110 dW_1111 (by decide) (by omega) hL hls hst ?_
  refine l_cp C (a := 0) (idx := 133) (w := 1083) (n := 1) (vs := [.int (xs (i + 1))]) q254 (by decide) dW_1112 dW_1115 (by decide +kernel) rfl (by decide +kernel) (by decide +kernel) (fun z => trivial) ⟨aI_any _, trivial⟩ hv hls hst hcs (fun x1 H1 locs1 hv1 hst1 => ?_)
  refine l_a2 C dW_1116 hls ?_
  refine l_arg C (k := 1) dW_1117 dW_1118 dW_1120 dW_1121 dW_1122 (by decide) (by omega) hL hls hst1 ?_
  refine l_cp C (a := 314) (idx := 136) (w := 1837) (n := 1) (vs := [.int (xs (i + 1))]) r163 (by decide) dW_1123 dW_1126 (by decide +kernel) rfl (by decide +kernel) (by decide +kernel) (fun z => z.2.1) ⟨aI_any _, trivial⟩ hv1 hls hst1 hcs (fun x2 H2 locs2 hv2 hst2 => ?_)
  refine l_go C dW_1127 (by decide) ?_
  exact kk x2 H2 locs2 hv2 hst2
set_option maxHeartbeats 2000000 in
theorem lk_27 (C : lCx p l s mid meth c b L xs dC dI cA q sv qo) (hL : L ≤ 3072) (hi : i + 6 ≤ L) (hls : lv_has ls 7 (lvL b q qo i)) (hst : lSt s dC dI cA q qo x H locs) (hv : Inv x) (hcs : cells ≤ 601024 ∧ slots ≤ 7293033) (kk : ∀ (x' : xM) (H1 : Heap) (locs1 : List Loc), Inv x' → lSt s dC dI cA q qo x' H1 locs1 → W p l e room_1 s mid #[Value.ref b] below meth c H1 locs1 cells slots Q (F0 mid 1601 ls [])) : W p l e room_1 s mid #[Value.ref b] below meth c H locs cells slots Q (F0 mid 1130 ls []) := by
  obtain ⟨hx, hb, hr, hml, hown, hts, -⟩ := id C.1
  have hown : s.vm.findClass RL = some mid.cls := hown
  refine l_a1 C dW_1130 hls ?_
  refine l_cp C (a := 0) (idx := 137) (w := 1097) (n := 0) (vs := []) q257 (by decide) dW_1131 dW_1134 (by decide +kernel) rfl (by decide +kernel) (by decide +kernel) (fun z => trivial) trivial hv hls hst hcs (fun x1 H1 locs1 hv1 hst1 => ?_)
  refine l_a2 C dW_1135 hls ?_
  refine l_cp C (a := 314) (idx := 140) (w := 1853) (n := 0) (vs := []) r171 (by decide) dW_1136 dW_1139 (by decide +kernel) rfl (by decide +kernel) (by decide +kernel) (fun z => z.2.1) trivial hv1 hls hst1 hcs (fun x2 H2 locs2 hv2 hst2 => ?_)
  refine l_go C dW_1140 (by decide) ?_
  exact kk x2 H2 locs2 hv2 hst2
set_option maxHeartbeats 2000000 in
theorem lk_28 (C : lCx p l s mid meth c b L xs dC dI cA q sv qo) (hL : L ≤ 3072) (hi : i + 6 ≤ L) (hls : lv_has ls 7 (lvL b q qo i)) (hst : lSt s dC dI cA q qo x H locs) (hv : Inv x) (hcs : cells ≤ 601024 ∧ slots ≤ 7293033) (kk : ∀ (x' : xM) (H1 : Heap) (locs1 : List Loc), Inv x' → lSt s dC dI cA q qo x' H1 locs1 → W p l e room_1 s mid #[Value.ref b] below meth c H1 locs1 cells slots Q (F0 mid 1601 ls [])) : W p l e room_1 s mid #[Value.ref b] below meth c H locs cells slots Q (F0 mid 1143 ls []) := by
  obtain ⟨hx, hb, hr, hml, hown, hts, -⟩ := id C.1
  have hown : s.vm.findClass RL = some mid.cls := hown
  refine l_a1 C dW_1143 hls ?_
  refine l_arg C (k := 1) dW_1144 dW_1145 dW_1147 dW_1148 dW_1149 (by decide) (by omega) hL hls hst ?_
  refine l_cp C (a := 0) (idx := 141) (w := 1108) (n := 1) (vs := [.int (xs (i + 1))]) q258 (by decide) dW_1150 dW_1153 (by decide +kernel) rfl (by decide +kernel) (by decide +kernel) (fun z => trivial) ⟨aI_any _, trivial⟩ hv hls hst hcs (fun x1 H1 locs1 hv1 hst1 => ?_)
  refine l_a2 C dW_1154 hls ?_
  refine l_arg C (k := 1) dW_1155 dW_1156 dW_1158 dW_1159 dW_1160 (by decide) (by omega) hL hls hst1 ?_
  refine l_cp C (a := 314) (idx := 144) (w := 1858) (n := 1) (vs := [.int (xs (i + 1))]) r173 (by decide) dW_1161 dW_1164 (by decide +kernel) rfl (by decide +kernel) (by decide +kernel) (fun z => z.2.1) ⟨aI_any _, trivial⟩ hv1 hls hst1 hcs (fun x2 H2 locs2 hv2 hst2 => ?_)
  refine l_go C dW_1165 (by decide) ?_
  exact kk x2 H2 locs2 hv2 hst2
set_option maxHeartbeats 2000000 in
theorem lk_29 (C : lCx p l s mid meth c b L xs dC dI cA q sv qo) (hL : L ≤ 3072) (hi : i + 6 ≤ L) (hls : lv_has ls 7 (lvL b q qo i)) (hst : lSt s dC dI cA q qo x H locs) (hv : Inv x) (hcs : cells ≤ 601024 ∧ slots ≤ 7293033) (kk : ∀ (x' : xM) (H1 : Heap) (locs1 : List Loc), Inv x' → lSt s dC dI cA q qo x' H1 locs1 → W p l e room_1 s mid #[Value.ref b] below meth c H1 locs1 cells slots Q (F0 mid 1601 ls [])) : W p l e room_1 s mid #[Value.ref b] below meth c H locs cells slots Q (F0 mid 1168 ls []) := by
  obtain ⟨hx, hb, hr, hml, hown, hts, -⟩ := id C.1
  have hown : s.vm.findClass RL = some mid.cls := hown
  refine l_a1 C dW_1168 hls ?_
  refine l_arg C (k := 1) dW_1169 dW_1170 dW_1172 dW_1173 dW_1174 (by decide) (by omega) hL hls hst ?_
  refine l_arg C (k := 2) dW_1175 dW_1176 dW_1178 dW_1179 dW_1180 (by decide) (by omega) hL hls hst ?_
  refine l_cp C (a := 0) (idx := 145) (w := 1113) (n := 2) (vs := [.int (xs (i + 1)), .int (xs (i + 2))]) q259 (by decide) dW_1181 dW_1184 (by decide +kernel) rfl (by decide +kernel) (by decide +kernel) (fun z => trivial) ⟨aI_any _, aI_any _, trivial⟩ hv hls hst hcs (fun x1 H1 locs1 hv1 hst1 => ?_)
  refine l_a2 C dW_1185 hls ?_
  refine l_arg C (k := 1) dW_1186 dW_1187 dW_1189 dW_1190 dW_1191 (by decide) (by omega) hL hls hst1 ?_
  refine l_arg C (k := 2) dW_1192 dW_1193 dW_1195 dW_1196 dW_1197 (by decide) (by omega) hL hls hst1 ?_
  refine l_cp C (a := 314) (idx := 148) (w := 1862) (n := 2) (vs := [.int (xs (i + 1)), .int (xs (i + 2))]) r174 (by decide) dW_1198 dW_1201 (by decide +kernel) rfl (by decide +kernel) (by decide +kernel) (fun z => z.2.1) ⟨aI_any _, aI_any _, trivial⟩ hv1 hls hst1 hcs (fun x2 H2 locs2 hv2 hst2 => ?_)
  refine l_go C dW_1202 (by decide) ?_
  exact kk x2 H2 locs2 hv2 hst2
set_option maxHeartbeats 2000000 in
theorem lk_30 (C : lCx p l s mid meth c b L xs dC dI cA q sv qo) (hL : L ≤ 3072) (hi : i + 6 ≤ L) (hls : lv_has ls 7 (lvL b q qo i)) (hst : lSt s dC dI cA q qo x H locs) (hv : Inv x) (hcs : cells ≤ 601024 ∧ slots ≤ 7293033) (kk : ∀ (x' : xM) (H1 : Heap) (locs1 : List Loc), Inv x' → lSt s dC dI cA q qo x' H1 locs1 → W p l e room_1 s mid #[Value.ref b] below meth c H1 locs1 cells slots Q (F0 mid 1601 ls [])) : W p l e room_1 s mid #[Value.ref b] below meth c H locs cells slots Q (F0 mid 1205 ls []) := by
  obtain ⟨hx, hb, hr, hml, hown, hts, -⟩ := id C.1
  have hown : s.vm.findClass RL = some mid.cls := hown
  refine l_a1 C dW_1205 hls ?_
  refine l_arg C (k := 1) dW_1206 dW_1207 dW_1209 dW_1210 dW_1211 (by decide) (by omega) hL hls hst ?_
  refine l_arg C (k := 2) dW_1212 dW_1213 dW_1215 dW_1216 dW_1217 (by decide) (by omega) hL hls hst ?_
  refine l_cp C (a := 0) (idx := 149) (w := 1117) (n := 2) (vs := [.int (xs (i + 1)), .int (xs (i + 2))]) q260 (by decide) dW_1218 dW_1221 (by decide +kernel) rfl (by decide +kernel) (by decide +kernel) (fun z => trivial) ⟨aI_any _, aI_any _, trivial⟩ hv hls hst hcs (fun x1 H1 locs1 hv1 hst1 => ?_)
  refine l_a2 C dW_1222 hls ?_
  refine l_arg C (k := 1) dW_1223 dW_1224 dW_1226 dW_1227 dW_1228 (by decide) (by omega) hL hls hst1 ?_
  refine l_arg C (k := 2) dW_1229 dW_1230 dW_1232 dW_1233 dW_1234 (by decide) (by omega) hL hls hst1 ?_
  refine l_cp C (a := 314) (idx := 152) (w := 1870) (n := 2) (vs := [.int (xs (i + 1)), .int (xs (i + 2))]) r175 (by decide) dW_1235 dW_1238 (by decide +kernel) rfl (by decide +kernel) (by decide +kernel) (fun z => z.2.1) ⟨aI_any _, aI_any _, trivial⟩ hv1 hls hst1 hcs (fun x2 H2 locs2 hv2 hst2 => ?_)
  refine l_go C dW_1239 (by decide) ?_
  exact kk x2 H2 locs2 hv2 hst2
set_option maxHeartbeats 2000000 in
theorem lk_31 (C : lCx p l s mid meth c b L xs dC dI cA q sv qo) (hL : L ≤ 3072) (hi : i + 6 ≤ L) (hls : lv_has ls 7 (lvL b q qo i)) (hst : lSt s dC dI cA q qo x H locs) (hv : Inv x) (hcs : cells ≤ 601024 ∧ slots ≤ 7293033) (kk : ∀ (x' : xM) (H1 : Heap) (locs1 : List Loc), Inv x' → lSt s dC dI cA q qo x' H1 locs1 → W p l e room_1 s mid #[Value.ref b] below meth c H1 locs1 cells slots Q (F0 mid 1601 ls [])) : W p l e room_1 s mid #[Value.ref b] below meth c H locs cells slots Q (F0 mid 1242 ls []) := by
  obtain ⟨hx, hb, hr, hml, hown, hts, -⟩ := id C.1
  have hown : s.vm.findClass RL = some mid.cls := hown
  refine l_a1 C dW_1242 hls ?_
  refine l_arg C (k := 1) dW_1243 dW_1244 dW_1246 dW_1247 dW_1248 (by decide) (by omega) hL hls hst ?_
  refine l_cp C (a := 0) (idx := 153) (w := 1122) (n := 1) (vs := [.int (xs (i + 1))]) q261 (by decide) dW_1249 dW_1252 (by decide +kernel) rfl (by decide +kernel) (by decide +kernel) (fun z => trivial) ⟨aI_any _, trivial⟩ hv hls hst hcs (fun x1 H1 locs1 hv1 hst1 => ?_)
  refine l_a2 C dW_1253 hls ?_
  refine l_arg C (k := 1) dW_1254 dW_1255 dW_1257 dW_1258 dW_1259 (by decide) (by omega) hL hls hst1 ?_
  refine l_cp C (a := 314) (idx := 156) (w := 1874) (n := 1) (vs := [.int (xs (i + 1))]) r176 (by decide) dW_1260 dW_1263 (by decide +kernel) rfl (by decide +kernel) (by decide +kernel) (fun z => z.2.1) ⟨aI_any _, trivial⟩ hv1 hls hst1 hcs (fun x2 H2 locs2 hv2 hst2 => ?_)
  refine l_go C dW_1264 (by decide) ?_
  exact kk x2 H2 locs2 hv2 hst2
set_option maxHeartbeats 2000000 in
theorem lk_32 (C : lCx p l s mid meth c b L xs dC dI cA q sv qo) (hL : L ≤ 3072) (hi : i + 6 ≤ L) (hls : lv_has ls 7 (lvL b q qo i)) (hst : lSt s dC dI cA q qo x H locs) (hv : Inv x) (hcs : cells ≤ 601024 ∧ slots ≤ 7293033) (kk : ∀ (x' : xM) (H1 : Heap) (locs1 : List Loc), Inv x' → lSt s dC dI cA q qo x' H1 locs1 → W p l e room_1 s mid #[Value.ref b] below meth c H1 locs1 cells slots Q (F0 mid 1601 ls [])) : W p l e room_1 s mid #[Value.ref b] below meth c H locs cells slots Q (F0 mid 1267 ls []) := by
  obtain ⟨hx, hb, hr, hml, hown, hts, -⟩ := id C.1
  have hown : s.vm.findClass RL = some mid.cls := hown
  refine l_a1 C dW_1267 hls ?_
  refine l_arg C (k := 1) dW_1268 dW_1269 dW_1271 dW_1272 dW_1273 (by decide) (by omega) hL hls hst ?_
  refine l_cp C (a := 0) (idx := 157) (w := 1127) (n := 1) (vs := [.int (xs (i + 1))]) q262 (by decide) dW_1274 dW_1277 (by decide +kernel) rfl (by decide +kernel) (by decide +kernel) (fun z => trivial) ⟨aI_any _, trivial⟩ hv hls hst hcs (fun x1 H1 locs1 hv1 hst1 => ?_)
  refine l_a2 C dW_1278 hls ?_
  refine l_arg C (k := 1) dW_1279 dW_1280 dW_1282 dW_1283 dW_1284 (by decide) (by omega) hL hls hst1 ?_
  refine l_cp C (a := 314) (idx := 160) (w := 1878) (n := 1) (vs := [.int (xs (i + 1))]) r177 (by decide) dW_1285 dW_1288 (by decide +kernel) rfl (by decide +kernel) (by decide +kernel) (fun z => z.2.1) ⟨aI_any _, trivial⟩ hv1 hls hst1 hcs (fun x2 H2 locs2 hv2 hst2 => ?_)
  refine l_go C dW_1289 (by decide) ?_
  exact kk x2 H2 locs2 hv2 hst2
set_option maxHeartbeats 2000000 in
theorem lk_33 (C : lCx p l s mid meth c b L xs dC dI cA q sv qo) (hL : L ≤ 3072) (hi : i + 6 ≤ L) (hls : lv_has ls 7 (lvL b q qo i)) (hst : lSt s dC dI cA q qo x H locs) (hv : Inv x) (hcs : cells ≤ 601024 ∧ slots ≤ 7293033) (kk : ∀ (x' : xM) (H1 : Heap) (locs1 : List Loc), Inv x' → lSt s dC dI cA q qo x' H1 locs1 → W p l e room_1 s mid #[Value.ref b] below meth c H1 locs1 cells slots Q (F0 mid 1601 ls [])) : W p l e room_1 s mid #[Value.ref b] below meth c H locs cells slots Q (F0 mid 1292 ls []) := by
  obtain ⟨hx, hb, hr, hml, hown, hts, -⟩ := id C.1
  have hown : s.vm.findClass RL = some mid.cls := hown
  refine l_a1 C dW_1292 hls ?_
  refine l_arg C (k := 1) dW_1293 dW_1294 dW_1296 dW_1297 dW_1298 (by decide) (by omega) hL hls hst ?_
  refine l_arg C (k := 2) dW_1299 dW_1300 dW_1302 dW_1303 dW_1304 (by decide) (by omega) hL hls hst ?_
  refine l_arg C (k := 3) dW_1305 dW_1306 dW_1308 dW_1309 dW_1310 (by decide) (by omega) hL hls hst ?_
  refine l_arg C (k := 4) dW_1311 dW_1312 dW_1314 dW_1315 dW_1316 (by decide) (by omega) hL hls hst ?_
  refine l_arg C (k := 5) dW_1317 dW_1318 dW_1320 dW_1321 dW_1322 (by decide) (by omega) hL hls hst ?_
  refine l_cp C (a := 0) (idx := 161) (w := 1131) (n := 5) (vs := [.int (xs (i + 1)), .int (xs (i + 2)), .int (xs (i + 3)), .int (xs (i + 4)), .int (xs (i + 5))]) q265 (by decide) dW_1323 dW_1326 (by decide +kernel) rfl (by decide +kernel) (by decide +kernel) (fun z => trivial) ⟨aI_any _, aI_any _, aI_any _, aI_any _, aI_any _, trivial⟩ hv hls hst hcs (fun x1 H1 locs1 hv1 hst1 => ?_)
  refine l_a2 C dW_1327 hls ?_
  refine l_arg C (k := 1) dW_1328 dW_1329 dW_1331 dW_1332 dW_1333 (by decide) (by omega) hL hls hst1 ?_
  refine l_arg C (k := 2) dW_1334 dW_1335 dW_1337 dW_1338 dW_1339 (by decide) (by omega) hL hls hst1 ?_
  refine l_arg C (k := 3) dW_1340 dW_1341 dW_1343 dW_1344 dW_1345 (by decide) (by omega) hL hls hst1 ?_
  refine l_arg C (k := 4) dW_1346 dW_1347 dW_1349 dW_1350 dW_1351 (by decide) (by omega) hL hls hst1 ?_
  refine l_arg C (k := 5) dW_1352 dW_1353 dW_1355 dW_1356 dW_1357 (by decide) (by omega) hL hls hst1 ?_
  refine l_cp C (a := 314) (idx := 164) (w := 1882) (n := 5) (vs := [.int (xs (i + 1)), .int (xs (i + 2)), .int (xs (i + 3)), .int (xs (i + 4)), .int (xs (i + 5))]) r180 (by decide) dW_1358 dW_1361 (by decide +kernel) rfl (by decide +kernel) (by decide +kernel) (fun z => z.2.1) ⟨aI_any _, aI_any _, aI_any _, aI_any _, aI_any _, trivial⟩ hv1 hls hst1 hcs (fun x2 H2 locs2 hv2 hst2 => ?_)
  refine l_go C dW_1362 (by decide) ?_
  exact kk x2 H2 locs2 hv2 hst2
set_option maxHeartbeats 2000000 in
theorem lk_34 (C : lCx p l s mid meth c b L xs dC dI cA q sv qo) (hL : L ≤ 3072) (hi : i + 6 ≤ L) (hls : lv_has ls 7 (lvL b q qo i)) (hst : lSt s dC dI cA q qo x H locs) (hv : Inv x) (hcs : cells ≤ 601024 ∧ slots ≤ 7293033) (kk : ∀ (x' : xM) (H1 : Heap) (locs1 : List Loc), Inv x' → lSt s dC dI cA q qo x' H1 locs1 → W p l e room_1 s mid #[Value.ref b] below meth c H1 locs1 cells slots Q (F0 mid 1601 ls [])) : W p l e room_1 s mid #[Value.ref b] below meth c H locs cells slots Q (F0 mid 1365 ls []) := by
  obtain ⟨hx, hb, hr, hml, hown, hts, -⟩ := id C.1
  have hown : s.vm.findClass RL = some mid.cls := hown
  refine l_a1 C dW_1365 hls ?_
  refine l_arg C (k := 1) dW_1366 dW_1367 dW_1369 dW_1370 dW_1371 (by decide) (by omega) hL hls hst ?_
  refine l_arg C (k := 2) dW_1372 dW_1373 dW_1375 dW_1376 dW_1377 (by decide) (by omega) hL hls hst ?_
  refine l_arg C (k := 3) dW_1378 dW_1379 dW_1381 dW_1382 dW_1383 (by decide) (by omega) hL hls hst ?_
  refine l_cp C (a := 0) (idx := 165) (w := 1143) (n := 3) (vs := [.int (xs (i + 1)), .int (xs (i + 2)), .int (xs (i + 3))]) q267 (by decide) dW_1384 dW_1387 (by decide +kernel) rfl (by decide +kernel) (by decide +kernel) (fun z => trivial) ⟨aI_any _, aI_any _, aI_any _, trivial⟩ hv hls hst hcs (fun x1 H1 locs1 hv1 hst1 => ?_)
  refine l_a2 C dW_1388 hls ?_
  refine l_arg C (k := 1) dW_1389 dW_1390 dW_1392 dW_1393 dW_1394 (by decide) (by omega) hL hls hst1 ?_
  refine l_arg C (k := 2) dW_1395 dW_1396 dW_1398 dW_1399 dW_1400 (by decide) (by omega) hL hls hst1 ?_
  refine l_arg C (k := 3) dW_1401 dW_1402 dW_1404 dW_1405 dW_1406 (by decide) (by omega) hL hls hst1 ?_
  refine l_cp C (a := 314) (idx := 169) (w := 1895) (n := 3) (vs := [.int (xs (i + 1)), .int (xs (i + 2)), .int (xs (i + 3))]) r181 (by decide) dW_1407 dW_1410 (by decide +kernel) rfl (by decide +kernel) (by decide +kernel) (fun z => z.2.1) ⟨aI_any _, aI_any _, aI_any _, trivial⟩ hv1 hls hst1 hcs (fun x2 H2 locs2 hv2 hst2 => ?_)
  refine l_go C dW_1411 (by decide) ?_
  exact kk x2 H2 locs2 hv2 hst2
set_option maxHeartbeats 2000000 in
theorem lk_35 (C : lCx p l s mid meth c b L xs dC dI cA q sv qo) (hL : L ≤ 3072) (hi : i + 6 ≤ L) (hls : lv_has ls 7 (lvL b q qo i)) (hst : lSt s dC dI cA q qo x H locs) (hv : Inv x) (hcs : cells ≤ 601024 ∧ slots ≤ 7293033) (kk : ∀ (x' : xM) (H1 : Heap) (locs1 : List Loc), Inv x' → lSt s dC dI cA q qo x' H1 locs1 → W p l e room_1 s mid #[Value.ref b] below meth c H1 locs1 cells slots Q (F0 mid 1601 ls [])) : W p l e room_1 s mid #[Value.ref b] below meth c H locs cells slots Q (F0 mid 1414 ls []) := by
  obtain ⟨hx, hb, hr, hml, hown, hts, -⟩ := id C.1
  have hown : s.vm.findClass RL = some mid.cls := hown
  refine l_a1 C dW_1414 hls ?_
  refine l_arg C (k := 1) dW_1415 dW_1416 dW_1418 dW_1419 dW_1420 (by decide) (by omega) hL hls hst ?_
  refine l_arg C (k := 2) dW_1421 dW_1422 dW_1424 dW_1425 dW_1426 (by decide) (by omega) hL hls hst ?_
  refine l_cp C (a := 0) (idx := 170) (w := 1152) (n := 2) (vs := [.int (xs (i + 1)), .int (xs (i + 2))]) q268 (by decide) dW_1427 dW_1430 (by decide +kernel) rfl (by decide +kernel) (by decide +kernel) (fun z => trivial) ⟨aI_any _, aI_any _, trivial⟩ hv hls hst hcs (fun x1 H1 locs1 hv1 hst1 => ?_)
  refine l_a2 C dW_1431 hls ?_
  refine l_arg C (k := 1) dW_1432 dW_1433 dW_1435 dW_1436 dW_1437 (by decide) (by omega) hL hls hst1 ?_
  refine l_arg C (k := 2) dW_1438 dW_1439 dW_1441 dW_1442 dW_1443 (by decide) (by omega) hL hls hst1 ?_
  refine l_cp C (a := 314) (idx := 173) (w := 1899) (n := 2) (vs := [.int (xs (i + 1)), .int (xs (i + 2))]) r183 (by decide) dW_1444 dW_1447 (by decide +kernel) rfl (by decide +kernel) (by decide +kernel) (fun z => z.2.1) ⟨aI_any _, aI_any _, trivial⟩ hv1 hls hst1 hcs (fun x2 H2 locs2 hv2 hst2 => ?_)
  refine l_go C dW_1448 (by decide) ?_
  exact kk x2 H2 locs2 hv2 hst2
set_option maxHeartbeats 2000000 in
theorem lk_36 (C : lCx p l s mid meth c b L xs dC dI cA q sv qo) (hL : L ≤ 3072) (hi : i + 6 ≤ L) (hls : lv_has ls 7 (lvL b q qo i)) (hst : lSt s dC dI cA q qo x H locs) (hv : Inv x) (hcs : cells ≤ 601024 ∧ slots ≤ 7293033) (kk : ∀ (x' : xM) (H1 : Heap) (locs1 : List Loc), Inv x' → lSt s dC dI cA q qo x' H1 locs1 → W p l e room_1 s mid #[Value.ref b] below meth c H1 locs1 cells slots Q (F0 mid 1601 ls [])) : W p l e room_1 s mid #[Value.ref b] below meth c H locs cells slots Q (F0 mid 1451 ls []) := by
  obtain ⟨hx, hb, hr, hml, hown, hts, -⟩ := id C.1
  have hown : s.vm.findClass RL = some mid.cls := hown
  refine l_a1 C dW_1451 hls ?_
  refine l_arg C (k := 1) dW_1452 dW_1453 dW_1455 dW_1456 dW_1457 (by decide) (by omega) hL hls hst ?_
  refine l_arg C (k := 2) dW_1458 dW_1459 dW_1461 dW_1462 dW_1463 (by decide) (by omega) hL hls hst ?_
  refine l_cp C (a := 0) (idx := 174) (w := 1159) (n := 2) (vs := [.int (xs (i + 1)), .int (xs (i + 2))]) q269 (by decide) dW_1464 dW_1467 (by decide +kernel) rfl (by decide +kernel) (by decide +kernel) (fun z => trivial) ⟨aI_any _, aI_any _, trivial⟩ hv hls hst hcs (fun x1 H1 locs1 hv1 hst1 => ?_)
  refine l_a2 C dW_1468 hls ?_
  refine l_arg C (k := 1) dW_1469 dW_1470 dW_1472 dW_1473 dW_1474 (by decide) (by omega) hL hls hst1 ?_
  refine l_arg C (k := 2) dW_1475 dW_1476 dW_1478 dW_1479 dW_1480 (by decide) (by omega) hL hls hst1 ?_
  refine l_cp C (a := 314) (idx := 177) (w := 1905) (n := 2) (vs := [.int (xs (i + 1)), .int (xs (i + 2))]) r185 (by decide) dW_1481 dW_1484 (by decide +kernel) rfl (by decide +kernel) (by decide +kernel) (fun z => z.2.1) ⟨aI_any _, aI_any _, trivial⟩ hv1 hls hst1 hcs (fun x2 H2 locs2 hv2 hst2 => ?_)
  refine l_go C dW_1485 (by decide) ?_
  exact kk x2 H2 locs2 hv2 hst2
set_option maxHeartbeats 2000000 in
theorem lk_37 (C : lCx p l s mid meth c b L xs dC dI cA q sv qo) (hL : L ≤ 3072) (hi : i + 6 ≤ L) (hls : lv_has ls 7 (lvL b q qo i)) (hst : lSt s dC dI cA q qo x H locs) (hv : Inv x) (hcs : cells ≤ 601024 ∧ slots ≤ 7293033) (kk : ∀ (x' : xM) (H1 : Heap) (locs1 : List Loc), Inv x' → lSt s dC dI cA q qo x' H1 locs1 → W p l e room_1 s mid #[Value.ref b] below meth c H1 locs1 cells slots Q (F0 mid 1601 ls [])) : W p l e room_1 s mid #[Value.ref b] below meth c H locs cells slots Q (F0 mid 1488 ls []) := by
  obtain ⟨hx, hb, hr, hml, hown, hts, -⟩ := id C.1
  have hown : s.vm.findClass RL = some mid.cls := hown
  refine l_a1 C dW_1488 hls ?_
  refine l_arg C (k := 1) dW_1489 dW_1490 dW_1492 dW_1493 dW_1494 (by decide) (by omega) hL hls hst ?_
  refine l_cp C (a := 0) (idx := 178) (w := 1163) (n := 1) (vs := [.int (xs (i + 1))]) q282 (by decide) dW_1495 dW_1498 (by decide +kernel) rfl (by decide +kernel) (by decide +kernel) (fun z => trivial) ⟨aI_any _, trivial⟩ hv hls hst hcs (fun x1 H1 locs1 hv1 hst1 => ?_)
  refine l_a2 C dW_1499 hls ?_
  refine l_arg C (k := 1) dW_1500 dW_1501 dW_1503 dW_1504 dW_1505 (by decide) (by omega) hL hls hst1 ?_
  refine l_cp C (a := 314) (idx := 181) (w := 1909) (n := 1) (vs := [.int (xs (i + 1))]) r220 (by decide) dW_1506 dW_1509 (by decide +kernel) rfl (by decide +kernel) (by decide +kernel) (fun z => z.2.1) ⟨aI_any _, trivial⟩ hv1 hls hst1 hcs (fun x2 H2 locs2 hv2 hst2 => ?_)
  refine l_go C dW_1510 (by decide) ?_
  exact kk x2 H2 locs2 hv2 hst2
set_option maxHeartbeats 2000000 in
theorem lk_38 (C : lCx p l s mid meth c b L xs dC dI cA q sv qo) (hL : L ≤ 3072) (hi : i + 6 ≤ L) (hls : lv_has ls 7 (lvL b q qo i)) (hst : lSt s dC dI cA q qo x H locs) (hv : Inv x) (hcs : cells ≤ 601024 ∧ slots ≤ 7293033) (kk : ∀ (x' : xM) (H1 : Heap) (locs1 : List Loc), Inv x' → lSt s dC dI cA q qo x' H1 locs1 → W p l e room_1 s mid #[Value.ref b] below meth c H1 locs1 cells slots Q (F0 mid 1601 ls [])) : W p l e room_1 s mid #[Value.ref b] below meth c H locs cells slots Q (F0 mid 1513 ls []) := by
  obtain ⟨hx, hb, hr, hml, hown, hts, -⟩ := id C.1
  have hown : s.vm.findClass RL = some mid.cls := hown
  refine l_a1 C dW_1513 hls ?_
  refine l_arg C (k := 1) dW_1514 dW_1515 dW_1517 dW_1518 dW_1519 (by decide) (by omega) hL hls hst ?_
  refine l_arg C (k := 2) dW_1520 dW_1521 dW_1523 dW_1524 dW_1525 (by decide) (by omega) hL hls hst ?_
  refine l_cp C (a := 0) (idx := 182) (w := 1063) (n := 2) (vs := [.int (xs (i + 1)), .int (xs (i + 2))]) q241 (by decide) dW_1526 dW_1529 (by decide +kernel) rfl (by decide +kernel) (by decide +kernel) (fun z => trivial) ⟨aI_any _, aI_any _, trivial⟩ hv hls hst hcs (fun x1 H1 locs1 hv1 hst1 => ?_)
  refine l_a2 C dW_1530 hls ?_
  refine l_arg C (k := 1) dW_1531 dW_1532 dW_1534 dW_1535 dW_1536 (by decide) (by omega) hL hls hst1 ?_
  refine l_arg C (k := 2) dW_1537 dW_1538 dW_1540 dW_1541 dW_1542 (by decide) (by omega) hL hls hst1 ?_
  refine l_cp C (a := 314) (idx := 185) (w := 1945) (n := 2) (vs := [.int (xs (i + 1)), .int (xs (i + 2))]) r222 (by decide) dW_1543 dW_1546 (by decide +kernel) rfl (by decide +kernel) (by decide +kernel) (fun z => z.2.1) ⟨aI_any _, aI_any _, trivial⟩ hv1 hls hst1 hcs (fun x2 H2 locs2 hv2 hst2 => ?_)
  refine l_go C dW_1547 (by decide) ?_
  exact kk x2 H2 locs2 hv2 hst2
set_option maxHeartbeats 2000000 in
theorem lk_39 (C : lCx p l s mid meth c b L xs dC dI cA q sv qo) (hL : L ≤ 3072) (hi : i + 6 ≤ L) (hls : lv_has ls 7 (lvL b q qo i)) (hst : lSt s dC dI cA q qo x H locs) (hv : Inv x) (hcs : cells ≤ 601024 ∧ slots ≤ 7293033) (kk : ∀ (x' : xM) (H1 : Heap) (locs1 : List Loc), Inv x' → lSt s dC dI cA q qo x' H1 locs1 → W p l e room_1 s mid #[Value.ref b] below meth c H1 locs1 cells slots Q (F0 mid 1601 ls [])) : W p l e room_1 s mid #[Value.ref b] below meth c H locs cells slots Q (F0 mid 1550 ls []) := by
  obtain ⟨hx, hb, hr, hml, hown, hts, -⟩ := id C.1
  have hown : s.vm.findClass RL = some mid.cls := hown
  refine l_a1 C dW_1550 hls ?_
  obtain ⟨XF, hx1, hm1⟩ := p_image  x hv
  refine l_call1 C (a := 0) (j := 126) (w := 982) (n := 0) (as := []) (rest := []) (d := 1200) dW_1551 (by decide +kernel) rfl (by decide) (Nat.le_refl _) hx1 hls hst hcs (fun rv x1 H1 locs1 hp1 hst1 => ?_)
  obtain ⟨⟨z, rfl⟩, hp1⟩ := hp1
  refine lv_pop hx hb dW_1554 rfl ?_
  refine l_a2 C dW_1555 hls ?_
  refine l_call1 C (a := 314) (j := 261) (w := 1950) (n := 0) (as := []) (rest := []) (d := 1200) dW_1556 (by decide +kernel) rfl (by decide) (Nat.le_refl _) (hm1 _ _ hp1) hls hst1 hcs (fun rv x2 H2 locs2 hp2 hst2 => ?_)
  obtain ⟨rfl, hv2⟩ := hp2
  refine lv_pop hx hb dW_1559 rfl ?_
  refine l_go C dW_1560 (by decide) ?_
  exact kk x2 H2 locs2 hv2 hst2
set_option maxHeartbeats 2000000 in
theorem lk_40 (C : lCx p l s mid meth c b L xs dC dI cA q sv qo) (hL : L ≤ 3072) (hi : i + 6 ≤ L) (hls : lv_has ls 7 (lvL b q qo i)) (hst : lSt s dC dI cA q qo x H locs) (hv : Inv x) (hcs : cells ≤ 601024 ∧ slots ≤ 7293033) (kk : ∀ (x' : xM) (H1 : Heap) (locs1 : List Loc), Inv x' → lSt s dC dI cA q qo x' H1 locs1 → W p l e room_1 s mid #[Value.ref b] below meth c H1 locs1 cells slots Q (F0 mid 1601 ls [])) : W p l e room_1 s mid #[Value.ref b] below meth c H locs cells slots Q (F0 mid 1563 ls []) := by
  obtain ⟨hx, hb, hr, hml, hown, hts, -⟩ := id C.1
  have hown : s.vm.findClass RL = some mid.cls := hown
  refine l_a1 C dW_1563 hls ?_
  obtain ⟨XF, hx1, hm1⟩ := p_back  x hv
  refine l_call1 C (a := 0) (j := 127) (w := 992) (n := 0) (as := []) (rest := []) (d := 1200) dW_1564 (by decide +kernel) rfl (by decide) (Nat.le_refl _) hx1 hls hst hcs (fun rv x1 H1 locs1 hp1 hst1 => ?_)
  obtain ⟨⟨z, rfl⟩, hp1⟩ := hp1
  refine lv_pop hx hb dW_1567 rfl ?_
  refine l_a2 C dW_1568 hls ?_
  refine l_call1 C (a := 314) (j := 262) (w := 1954) (n := 0) (as := []) (rest := []) (d := 1200) dW_1569 (by decide +kernel) rfl (by decide) (Nat.le_refl _) (hm1 _ _ hp1) hls hst1 hcs (fun rv x2 H2 locs2 hp2 hst2 => ?_)
  obtain ⟨rfl, hv2⟩ := hp2
  refine lv_pop hx hb dW_1572 rfl ?_
  refine l_go C dW_1573 (by decide) ?_
  exact kk x2 H2 locs2 hv2 hst2
set_option maxHeartbeats 2000000 in
theorem lk_41 (C : lCx p l s mid meth c b L xs dC dI cA q sv qo) (hL : L ≤ 3072) (hi : i + 6 ≤ L) (hls : lv_has ls 7 (lvL b q qo i)) (hst : lSt s dC dI cA q qo x H locs) (hv : Inv x) (hcs : cells ≤ 601024 ∧ slots ≤ 7293033) (kk : ∀ (x' : xM) (H1 : Heap) (locs1 : List Loc), Inv x' → lSt s dC dI cA q qo x' H1 locs1 → W p l e room_1 s mid #[Value.ref b] below meth c H1 locs1 cells slots Q (F0 mid 1601 ls [])) : W p l e room_1 s mid #[Value.ref b] below meth c H locs cells slots Q (F0 mid 1576 ls []) := by
  obtain ⟨hx, hb, hr, hml, hown, hts, -⟩ := id C.1
  have hown : s.vm.findClass RL = some mid.cls := hown
  refine l_a1 C dW_1576 hls ?_
  refine l_arg C (k := 1) dW_1577 dW_1578 dW_1580 dW_1581 dW_1582 (by decide) (by omega) hL hls hst ?_
  obtain ⟨XF, hx1, hm1⟩ := p_count (xs (i + 1)) x hv
  refine l_call1 C (a := 0) (j := 106) (w := 805) (n := 1) (as := [.int (xs (i + 1))]) (rest := []) (d := 1200) dW_1583 (by decide +kernel) rfl (by decide) (Nat.le_refl _) hx1 hls hst hcs (fun rv x1 H1 locs1 hp1 hst1 => ?_)
  obtain ⟨⟨z, rfl⟩, hp1⟩ := hp1
  refine l_a2 C dW_1586 hls ?_
  refine l_arg C (k := 1) dW_1587 dW_1588 dW_1590 dW_1591 dW_1592 (by decide) (by omega) hL hls hst1 ?_
  refine l_call1 C (a := 314) (j := 263) (w := 1958) (n := 1) (as := [.int (xs (i + 1))]) (rest := [.int z]) (d := 1200) dW_1593 (by decide +kernel) rfl (by show 1 ≤ 8; decide) (Nat.le_refl _) (hm1 _ _ hp1) hls hst1 hcs (fun rv x2 H2 locs2 hp2 hst2 => ?_)
  obtain ⟨rfl, hv2⟩ := hp2
  exact lv_icmp_eq (tgt := 1601) hx hb dW_1596 (by decide) (fun _ => kk x2 H2 locs2 hv2 hst2) (fun c9 => absurd rfl c9)
end CASES
