theorem k191_0 : lkc 0 (kcode 191) = some (.aload_n 0) := by decide +kernel
theorem k191_1 : lkc 1 (kcode 191) = some (.iconst 0) := by decide +kernel
theorem k191_2 : lkc 2 (kcode 191) = some (.putfield 90) := by decide +kernel
theorem k191_5 : lkc 5 (kcode 191) = some (.iload_n 1) := by decide +kernel
theorem k191_6 : lkc 6 (kcode 191) = some (.i2l) := by decide +kernel
theorem k191_7 : lkc 7 (kcode 191) = some (.lconst 0) := by decide +kernel
theorem k191_8 : lkc 8 (kcode 191) = some (.ldc2_w 261) := by decide +kernel
theorem k191_11 : lkc 11 (kcode 191) = some (.invokestatic 211) := by decide +kernel
theorem k191_14 : lkc 14 (kcode 191) = some (.ifCond .eq 38) := by decide +kernel
theorem k191_17 : lkc 17 (kcode 191) = some (.iload_n 1) := by decide +kernel
theorem k191_18 : lkc 18 (kcode 191) = some (.iconst 1) := by decide +kernel
theorem k191_19 : lkc 19 (kcode 191) = some (.if_icmp .ne 11) := by decide +kernel
theorem k191_22 : lkc 22 (kcode 191) = some (.aload_n 0) := by decide +kernel
theorem k191_23 : lkc 23 (kcode 191) = some (.getfield 272) := by decide +kernel
theorem k191_26 : lkc 26 (kcode 191) = some (.iconst 4) := by decide +kernel
theorem k191_27 : lkc 27 (kcode 191) = some (.if_icmp .eq 25) := by decide +kernel
theorem k191_30 : lkc 30 (kcode 191) = some (.iload_n 1) := by decide +kernel
theorem k191_31 : lkc 31 (kcode 191) = some (.iconst 2) := by decide +kernel
theorem k191_32 : lkc 32 (kcode 191) = some (.if_icmp .ne 11) := by decide +kernel
theorem k191_35 : lkc 35 (kcode 191) = some (.aload_n 0) := by decide +kernel
theorem k191_36 : lkc 36 (kcode 191) = some (.getfield 275) := by decide +kernel
theorem k191_39 : lkc 39 (kcode 191) = some (.iconst 4) := by decide +kernel
theorem k191_40 : lkc 40 (kcode 191) = some (.if_icmp .eq 12) := by decide +kernel
theorem k191_43 : lkc 43 (kcode 191) = some (.aload_n 0) := by decide +kernel
theorem k191_44 : lkc 44 (kcode 191) = some (.iload_n 1) := by decide +kernel
theorem k191_45 : lkc 45 (kcode 191) = some (.invokevirtual 278) := by decide +kernel
theorem k191_48 : lkc 48 (kcode 191) = some (.iconst (-1)) := by decide +kernel
theorem k191_49 : lkc 49 (kcode 191) = some (.if_icmp .eq 5) := by decide +kernel
theorem k191_52 : lkc 52 (kcode 191) = some (.iconst (-1)) := by decide +kernel
theorem k191_53 : lkc 53 (kcode 191) = some (.ireturn) := by decide +kernel
theorem k191_54 : lkc 54 (kcode 191) = some (.aload_n 0) := by decide +kernel
theorem k191_55 : lkc 55 (kcode 191) = some (.getfield 103) := by decide +kernel
theorem k191_58 : lkc 58 (kcode 191) = some (.istore_n 2) := by decide +kernel
theorem k191_59 : lkc 59 (kcode 191) = some (.aload_n 0) := by decide +kernel
theorem k191_60 : lkc 60 (kcode 191) = some (.iconst 0) := by decide +kernel
theorem k191_61 : lkc 61 (kcode 191) = some (.putfield 103) := by decide +kernel
theorem k191_64 : lkc 64 (kcode 191) = some (.iload_n 1) := by decide +kernel
theorem k191_65 : lkc 65 (kcode 191) = some (.iconst 1) := by decide +kernel
theorem k191_66 : lkc 66 (kcode 191) = some (.if_icmp .ne 64) := by decide +kernel
theorem k191_69 : lkc 69 (kcode 191) = some (.iconst 0) := by decide +kernel
theorem k191_70 : lkc 70 (kcode 191) = some (.istore_n 3) := by decide +kernel
theorem k191_71 : lkc 71 (kcode 191) = some (.iload_n 3) := by decide +kernel
theorem k191_72 : lkc 72 (kcode 191) = some (.iload_n 2) := by decide +kernel
theorem k191_73 : lkc 73 (kcode 191) = some (.if_icmp .ge 30) := by decide +kernel
theorem k191_76 : lkc 76 (kcode 191) = some (.aload_n 0) := by decide +kernel
theorem k191_77 : lkc 77 (kcode 191) = some (.getfield 13) := by decide +kernel
theorem k191_80 : lkc 80 (kcode 191) = some (.sipush 240) := by decide +kernel
theorem k191_83 : lkc 83 (kcode 191) = some (.aload_n 0) := by decide +kernel
theorem k191_84 : lkc 84 (kcode 191) = some (.getfield 272) := by decide +kernel
theorem k191_87 : lkc 87 (kcode 191) = some (.imul) := by decide +kernel
theorem k191_88 : lkc 88 (kcode 191) = some (.iload_n 3) := by decide +kernel
theorem k191_89 : lkc 89 (kcode 191) = some (.iadd) := by decide +kernel
theorem k191_90 : lkc 90 (kcode 191) = some (.aload_n 0) := by decide +kernel
theorem k191_91 : lkc 91 (kcode 191) = some (.getfield 9) := by decide +kernel
theorem k191_94 : lkc 94 (kcode 191) = some (.iload_n 3) := by decide +kernel
theorem k191_95 : lkc 95 (kcode 191) = some (.baload) := by decide +kernel
theorem k191_96 : lkc 96 (kcode 191) = some (.bastore) := by decide +kernel
theorem k191_97 : lkc 97 (kcode 191) = some (.iinc 3 1) := by decide +kernel
theorem k191_100 : lkc 100 (kcode 191) = some (.goto (-29)) := by decide +kernel
theorem k191_103 : lkc 103 (kcode 191) = some (.aload_n 0) := by decide +kernel
theorem k191_104 : lkc 104 (kcode 191) = some (.getfield 16) := by decide +kernel
theorem k191_107 : lkc 107 (kcode 191) = some (.aload_n 0) := by decide +kernel
theorem k191_108 : lkc 108 (kcode 191) = some (.getfield 272) := by decide +kernel
theorem k191_111 : lkc 111 (kcode 191) = some (.iload_n 2) := by decide +kernel
theorem k191_112 : lkc 112 (kcode 191) = some (.iastore) := by decide +kernel
theorem k191_113 : lkc 113 (kcode 191) = some (.aload_n 0) := by decide +kernel
theorem k191_114 : lkc 114 (kcode 191) = some (.dup) := by decide +kernel
theorem k191_115 : lkc 115 (kcode 191) = some (.getfield 272) := by decide +kernel
theorem k191_118 : lkc 118 (kcode 191) = some (.iconst 1) := by decide +kernel
theorem k191_119 : lkc 119 (kcode 191) = some (.iadd) := by decide +kernel
theorem k191_120 : lkc 120 (kcode 191) = some (.putfield 272) := by decide +kernel
theorem k191_123 : lkc 123 (kcode 191) = some (.aload_n 0) := by decide +kernel
theorem k191_124 : lkc 124 (kcode 191) = some (.getfield 272) := by decide +kernel
theorem k191_127 : lkc 127 (kcode 191) = some (.iconst 1) := by decide +kernel
theorem k191_128 : lkc 128 (kcode 191) = some (.isub) := by decide +kernel
theorem k191_129 : lkc 129 (kcode 191) = some (.ireturn) := by decide +kernel
theorem k191_130 : lkc 130 (kcode 191) = some (.iload_n 1) := by decide +kernel
theorem k191_131 : lkc 131 (kcode 191) = some (.iconst 2) := by decide +kernel
theorem k191_132 : lkc 132 (kcode 191) = some (.if_icmp .ne 72) := by decide +kernel
theorem k191_135 : lkc 135 (kcode 191) = some (.iconst 0) := by decide +kernel
theorem k191_136 : lkc 136 (kcode 191) = some (.istore_n 3) := by decide +kernel
theorem k191_137 : lkc 137 (kcode 191) = some (.iload_n 3) := by decide +kernel
theorem k191_138 : lkc 138 (kcode 191) = some (.bipush 16) := by decide +kernel
theorem k191_140 : lkc 140 (kcode 191) = some (.if_icmp .ge 32) := by decide +kernel
theorem k191_143 : lkc 143 (kcode 191) = some (.aload_n 0) := by decide +kernel
theorem k191_144 : lkc 144 (kcode 191) = some (.getfield 52) := by decide +kernel
theorem k191_147 : lkc 147 (kcode 191) = some (.bipush 16) := by decide +kernel
theorem k191_149 : lkc 149 (kcode 191) = some (.aload_n 0) := by decide +kernel
theorem k191_150 : lkc 150 (kcode 191) = some (.getfield 275) := by decide +kernel
theorem k191_153 : lkc 153 (kcode 191) = some (.imul) := by decide +kernel
theorem k191_154 : lkc 154 (kcode 191) = some (.iload_n 3) := by decide +kernel
theorem k191_155 : lkc 155 (kcode 191) = some (.iadd) := by decide +kernel
theorem k191_156 : lkc 156 (kcode 191) = some (.aload_n 0) := by decide +kernel
theorem k191_157 : lkc 157 (kcode 191) = some (.getfield 52) := by decide +kernel
theorem k191_160 : lkc 160 (kcode 191) = some (.bipush 64) := by decide +kernel
theorem k191_162 : lkc 162 (kcode 191) = some (.iload_n 3) := by decide +kernel
theorem k191_163 : lkc 163 (kcode 191) = some (.iadd) := by decide +kernel
theorem k191_164 : lkc 164 (kcode 191) = some (.iaload) := by decide +kernel
theorem k191_165 : lkc 165 (kcode 191) = some (.iastore) := by decide +kernel
theorem k191_166 : lkc 166 (kcode 191) = some (.iinc 3 1) := by decide +kernel
theorem k191_169 : lkc 169 (kcode 191) = some (.goto (-32)) := by decide +kernel
theorem k191_172 : lkc 172 (kcode 191) = some (.aload_n 0) := by decide +kernel
theorem k191_173 : lkc 173 (kcode 191) = some (.getfield 55) := by decide +kernel
theorem k191_176 : lkc 176 (kcode 191) = some (.aload_n 0) := by decide +kernel
theorem k191_177 : lkc 177 (kcode 191) = some (.getfield 275) := by decide +kernel
theorem k191_180 : lkc 180 (kcode 191) = some (.aload_n 0) := by decide +kernel
theorem k191_181 : lkc 181 (kcode 191) = some (.getfield 55) := by decide +kernel
theorem k191_184 : lkc 184 (kcode 191) = some (.iconst 4) := by decide +kernel
theorem k191_185 : lkc 185 (kcode 191) = some (.iaload) := by decide +kernel
theorem k191_186 : lkc 186 (kcode 191) = some (.iastore) := by decide +kernel
theorem k191_187 : lkc 187 (kcode 191) = some (.aload_n 0) := by decide +kernel
theorem k191_188 : lkc 188 (kcode 191) = some (.dup) := by decide +kernel
theorem k191_189 : lkc 189 (kcode 191) = some (.getfield 275) := by decide +kernel
theorem k191_192 : lkc 192 (kcode 191) = some (.iconst 1) := by decide +kernel
theorem k191_193 : lkc 193 (kcode 191) = some (.iadd) := by decide +kernel
theorem k191_194 : lkc 194 (kcode 191) = some (.putfield 275) := by decide +kernel
theorem k191_197 : lkc 197 (kcode 191) = some (.aload_n 0) := by decide +kernel
theorem k191_198 : lkc 198 (kcode 191) = some (.getfield 275) := by decide +kernel
theorem k191_201 : lkc 201 (kcode 191) = some (.iconst 1) := by decide +kernel
theorem k191_202 : lkc 202 (kcode 191) = some (.isub) := by decide +kernel
theorem k191_203 : lkc 203 (kcode 191) = some (.ireturn) := by decide +kernel
theorem k191_204 : lkc 204 (kcode 191) = some (.aload_n 0) := by decide +kernel
theorem k191_205 : lkc 205 (kcode 191) = some (.aload_n 0) := by decide +kernel
theorem k191_206 : lkc 206 (kcode 191) = some (.getfield 37) := by decide +kernel
theorem k191_209 : lkc 209 (kcode 191) = some (.iconst 0) := by decide +kernel
theorem k191_210 : lkc 210 (kcode 191) = some (.iaload) := by decide +kernel
theorem k191_211 : lkc 211 (kcode 191) = some (.putfield 280) := by decide +kernel
theorem k191_214 : lkc 214 (kcode 191) = some (.aload_n 0) := by decide +kernel
theorem k191_215 : lkc 215 (kcode 191) = some (.aload_n 0) := by decide +kernel
theorem k191_216 : lkc 216 (kcode 191) = some (.getfield 239) := by decide +kernel
theorem k191_219 : lkc 219 (kcode 191) = some (.putfield 283) := by decide +kernel
theorem k191_222 : lkc 222 (kcode 191) = some (.aload_n 0) := by decide +kernel
theorem k191_223 : lkc 223 (kcode 191) = some (.aload_n 0) := by decide +kernel
theorem k191_224 : lkc 224 (kcode 191) = some (.getfield 242) := by decide +kernel
theorem k191_227 : lkc 227 (kcode 191) = some (.putfield 286) := by decide +kernel
theorem k191_230 : lkc 230 (kcode 191) = some (.iconst 0) := by decide +kernel
theorem k191_231 : lkc 231 (kcode 191) = some (.istore_n 3) := by decide +kernel
theorem k191_232 : lkc 232 (kcode 191) = some (.iload_n 3) := by decide +kernel
theorem k191_233 : lkc 233 (kcode 191) = some (.bipush 48) := by decide +kernel
theorem k191_235 : lkc 235 (kcode 191) = some (.if_icmp .ge 21) := by decide +kernel
theorem k191_238 : lkc 238 (kcode 191) = some (.aload_n 0) := by decide +kernel
theorem k191_239 : lkc 239 (kcode 191) = some (.getfield 40) := by decide +kernel
theorem k191_242 : lkc 242 (kcode 191) = some (.iload_n 3) := by decide +kernel
theorem k191_243 : lkc 243 (kcode 191) = some (.aload_n 0) := by decide +kernel
theorem k191_244 : lkc 244 (kcode 191) = some (.getfield 43) := by decide +kernel
theorem k191_247 : lkc 247 (kcode 191) = some (.iload_n 3) := by decide +kernel
theorem k191_248 : lkc 248 (kcode 191) = some (.iaload) := by decide +kernel
theorem k191_249 : lkc 249 (kcode 191) = some (.iastore) := by decide +kernel
theorem k191_250 : lkc 250 (kcode 191) = some (.iinc 3 1) := by decide +kernel
theorem k191_253 : lkc 253 (kcode 191) = some (.goto (-21)) := by decide +kernel
theorem k191_256 : lkc 256 (kcode 191) = some (.iconst 0) := by decide +kernel
theorem k191_257 : lkc 257 (kcode 191) = some (.istore_n 3) := by decide +kernel
theorem k191_258 : lkc 258 (kcode 191) = some (.iload_n 3) := by decide +kernel
theorem k191_259 : lkc 259 (kcode 191) = some (.bipush 8) := by decide +kernel
theorem k191_261 : lkc 261 (kcode 191) = some (.if_icmp .ge 21) := by decide +kernel
theorem k191_264 : lkc 264 (kcode 191) = some (.aload_n 0) := by decide +kernel
theorem k191_265 : lkc 265 (kcode 191) = some (.getfield 46) := by decide +kernel
theorem k191_268 : lkc 268 (kcode 191) = some (.iload_n 3) := by decide +kernel
theorem k191_269 : lkc 269 (kcode 191) = some (.aload_n 0) := by decide +kernel
theorem k191_270 : lkc 270 (kcode 191) = some (.getfield 49) := by decide +kernel
theorem k191_273 : lkc 273 (kcode 191) = some (.iload_n 3) := by decide +kernel
theorem k191_274 : lkc 274 (kcode 191) = some (.iaload) := by decide +kernel
theorem k191_275 : lkc 275 (kcode 191) = some (.iastore) := by decide +kernel
theorem k191_276 : lkc 276 (kcode 191) = some (.iinc 3 1) := by decide +kernel
theorem k191_279 : lkc 279 (kcode 191) = some (.goto (-21)) := by decide +kernel
theorem k191_282 : lkc 282 (kcode 191) = some (.iconst 0) := by decide +kernel
theorem k191_283 : lkc 283 (kcode 191) = some (.istore_n 3) := by decide +kernel
theorem k191_284 : lkc 284 (kcode 191) = some (.iload_n 3) := by decide +kernel
theorem k191_285 : lkc 285 (kcode 191) = some (.sipush 208) := by decide +kernel
theorem k191_288 : lkc 288 (kcode 191) = some (.if_icmp .ge 16) := by decide +kernel
theorem k191_291 : lkc 291 (kcode 191) = some (.aload_n 0) := by decide +kernel
theorem k191_292 : lkc 292 (kcode 191) = some (.getfield 58) := by decide +kernel
theorem k191_295 : lkc 295 (kcode 191) = some (.iload_n 3) := by decide +kernel
theorem k191_296 : lkc 296 (kcode 191) = some (.iconst 0) := by decide +kernel
theorem k191_297 : lkc 297 (kcode 191) = some (.iastore) := by decide +kernel
theorem k191_298 : lkc 298 (kcode 191) = some (.iinc 3 1) := by decide +kernel
theorem k191_301 : lkc 301 (kcode 191) = some (.goto (-17)) := by decide +kernel
theorem k191_304 : lkc 304 (kcode 191) = some (.iconst 0) := by decide +kernel
theorem k191_305 : lkc 305 (kcode 191) = some (.istore_n 3) := by decide +kernel
theorem k191_306 : lkc 306 (kcode 191) = some (.iload_n 3) := by decide +kernel
theorem k191_307 : lkc 307 (kcode 191) = some (.iconst 2) := by decide +kernel
theorem k191_308 : lkc 308 (kcode 191) = some (.aload_n 0) := by decide +kernel
theorem k191_309 : lkc 309 (kcode 191) = some (.getfield 286) := by decide +kernel
theorem k191_312 : lkc 312 (kcode 191) = some (.imul) := by decide +kernel
theorem k191_313 : lkc 313 (kcode 191) = some (.if_icmp .ge 24) := by decide +kernel
theorem k191_316 : lkc 316 (kcode 191) = some (.aload_n 0) := by decide +kernel
theorem k191_317 : lkc 317 (kcode 191) = some (.getfield 58) := by decide +kernel
theorem k191_320 : lkc 320 (kcode 191) = some (.bipush 16) := by decide +kernel
theorem k191_322 : lkc 322 (kcode 191) = some (.iload_n 3) := by decide +kernel
theorem k191_323 : lkc 323 (kcode 191) = some (.iadd) := by decide +kernel
theorem k191_324 : lkc 324 (kcode 191) = some (.aload_n 0) := by decide +kernel
theorem k191_325 : lkc 325 (kcode 191) = some (.getfield 46) := by decide +kernel
theorem k191_328 : lkc 328 (kcode 191) = some (.iload_n 3) := by decide +kernel
theorem k191_329 : lkc 329 (kcode 191) = some (.iaload) := by decide +kernel
theorem k191_330 : lkc 330 (kcode 191) = some (.iastore) := by decide +kernel
theorem k191_331 : lkc 331 (kcode 191) = some (.iinc 3 1) := by decide +kernel
theorem k191_334 : lkc 334 (kcode 191) = some (.goto (-28)) := by decide +kernel
theorem k191_337 : lkc 337 (kcode 191) = some (.iconst 0) := by decide +kernel
theorem k191_338 : lkc 338 (kcode 191) = some (.istore_n 3) := by decide +kernel
theorem k191_339 : lkc 339 (kcode 191) = some (.iload_n 3) := by decide +kernel
theorem k191_340 : lkc 340 (kcode 191) = some (.aload_n 0) := by decide +kernel
theorem k191_341 : lkc 341 (kcode 191) = some (.getfield 283) := by decide +kernel
theorem k191_344 : lkc 344 (kcode 191) = some (.if_icmp .ge 31) := by decide +kernel
theorem k191_347 : lkc 347 (kcode 191) = some (.aload_n 0) := by decide +kernel
theorem k191_348 : lkc 348 (kcode 191) = some (.getfield 58) := by decide +kernel
theorem k191_351 : lkc 351 (kcode 191) = some (.bipush 24) := by decide +kernel
theorem k191_353 : lkc 353 (kcode 191) = some (.dup2) := by decide +kernel
theorem k191_354 : lkc 354 (kcode 191) = some (.iaload) := by decide +kernel
theorem k191_355 : lkc 355 (kcode 191) = some (.aload_n 0) := by decide +kernel
theorem k191_356 : lkc 356 (kcode 191) = some (.getfield 40) := by decide +kernel
theorem k191_359 : lkc 359 (kcode 191) = some (.iconst 4) := by decide +kernel
theorem k191_360 : lkc 360 (kcode 191) = some (.iload_n 3) := by decide +kernel
theorem k191_361 : lkc 361 (kcode 191) = some (.imul) := by decide +kernel
theorem k191_362 : lkc 362 (kcode 191) = some (.iconst 3) := by decide +kernel
theorem k191_363 : lkc 363 (kcode 191) = some (.iadd) := by decide +kernel
theorem k191_364 : lkc 364 (kcode 191) = some (.iaload) := by decide +kernel
theorem k191_365 : lkc 365 (kcode 191) = some (.iload_n 3) := by decide +kernel
theorem k191_366 : lkc 366 (kcode 191) = some (.ishl) := by decide +kernel
theorem k191_367 : lkc 367 (kcode 191) = some (.ior) := by decide +kernel
theorem k191_368 : lkc 368 (kcode 191) = some (.iastore) := by decide +kernel
theorem k191_369 : lkc 369 (kcode 191) = some (.iinc 3 1) := by decide +kernel
theorem k191_372 : lkc 372 (kcode 191) = some (.goto (-33)) := by decide +kernel
theorem k191_375 : lkc 375 (kcode 191) = some (.aload_n 0) := by decide +kernel
theorem k191_376 : lkc 376 (kcode 191) = some (.getfield 58) := by decide +kernel
theorem k191_379 : lkc 379 (kcode 191) = some (.bipush 25) := by decide +kernel
theorem k191_381 : lkc 381 (kcode 191) = some (.aload_n 0) := by decide +kernel
theorem k191_382 : lkc 382 (kcode 191) = some (.getfield 37) := by decide +kernel
theorem k191_385 : lkc 385 (kcode 191) = some (.iconst 1) := by decide +kernel
theorem k191_386 : lkc 386 (kcode 191) = some (.iaload) := by decide +kernel
theorem k191_387 : lkc 387 (kcode 191) = some (.iastore) := by decide +kernel
theorem k191_388 : lkc 388 (kcode 191) = some (.aload_n 0) := by decide +kernel
theorem k191_389 : lkc 389 (kcode 191) = some (.iconst 0) := by decide +kernel
theorem k191_390 : lkc 390 (kcode 191) = some (.putfield 289) := by decide +kernel
theorem k191_393 : lkc 393 (kcode 191) = some (.aload_n 0) := by decide +kernel
theorem k191_394 : lkc 394 (kcode 191) = some (.iconst 0) := by decide +kernel
theorem k191_395 : lkc 395 (kcode 191) = some (.putfield 292) := by decide +kernel
theorem k191_398 : lkc 398 (kcode 191) = some (.aload_n 0) := by decide +kernel
theorem k191_399 : lkc 399 (kcode 191) = some (.iconst 0) := by decide +kernel
theorem k191_400 : lkc 400 (kcode 191) = some (.putfield 295) := by decide +kernel
theorem k191_403 : lkc 403 (kcode 191) = some (.aload_n 0) := by decide +kernel
theorem k191_404 : lkc 404 (kcode 191) = some (.getfield 283) := by decide +kernel
theorem k191_407 : lkc 407 (kcode 191) = some (.ireturn) := by decide +kernel
/-! forward: text, the reference's side -/
def mtG (u : Nat → Int32) (m m2 : xM) (str : Int32) (L K : Nat) : Prop := rS m2 ∧ m2.1 314 6 = 0 ∧ m2.1 314 26 = str ∧ m2.1 314 7 = nI L ∧ m2.1 314 30 = nI K ∧ m2.1 315 = u ∧ (∀ i, i < 4 → m2.1 325 i = m.1 325 i) ∧ (∀ i, i < 64 → m2.1 324 i = m.1 324 i) ∧ ∀ a i, a < 314 → m2.1 a i = m.1 a i
theorem mtG_s {u : Nat → Int32} {m m2 : xM} {str : Int32} {L K a i : Nat} {v : Int32} (h : mtG u m m2 str L K) (ha : 314 ≤ a ∧ a ≠ 315 ∧ a ≠ 324 ∧ a ≠ 325 ∧ (a = 314 → i ≠ 6 ∧ i ≠ 26 ∧ i ≠ 7 ∧ i ≠ 30)) : mtG u m (mI m2 a i v) str L K := by
  obtain ⟨h0, h1, h2, h3, h4, h5, h6, h7, h8⟩ := h
  exact ⟨h0, by rw [mI_ne (by omega)]; exact h1, by rw [mI_ne (by omega)]; exact h2, by rw [mI_ne (by omega)]; exact h3, by rw [mI_ne (by omega)]; exact h4, by rw [← h5]; exact funext fun j => mI_ne (by omega), fun j hj => by rw [mI_ne (by omega)]; exact h6 j hj, fun j hj => by rw [mI_ne (by omega)]; exact h7 j hj, fun b j hb => by rw [mI_ne (by omega)]; exact h8 b j hb⟩
theorem jM_c {x : xM} {a i : Nat} {v : Int32} (h : jmB (0, [], [], [], [(a, i, i + 1)]) = true) (hj : jM x) : jM (mI x a i v) := jM_st (c := (0, [], [], [], [(a, i, i + 1)])) h x _ (fun b j hw => mI_ne (fun z => (wm1_c.mp hw).1 ⟨z.1.symm, by show i ≤ j; omega, by show j < i + 1; omega⟩)) hj
set_option maxHeartbeats 4000000 in
theorem c_mtext {m : xM} {N L K : Nat} {u : Nat → Int32} {z : Int32} (hI : gI tS tR m) (hj : jM m) (h1 : m.1 314 6 = nI N) (hN : N ≤ 240) (h2 : m.1 315 = u) (hb : ∀ i, byR (u i)) (hL : m.1 314 7 = nI L) (hL4 : L ≤ 4) (hK : m.1 314 30 = nI K) (hK4 : K ≤ 4) : fC 191 [.ref 314, .int z] m (fun rv m' => txO N (tt u) z (m.1 314 26) L K rv (m'.1 314 6) (m'.1 314 26) (m'.1 314 7) (m'.1 314 30) ∧ m'.1 315 = u ∧ (z = 2 → FA N (tt u) z (-1) → K < 4 → m'.1 325 K = nI (wk0 N (tt u)).1 ∧ ∀ i, i < (wk0 N (tt u)).1 → i < 16 → m'.1 324 (16 * K + i) = (wk0 N (tt u)).2.1 i) ∧ (∀ k, k < K → m'.1 325 k = m.1 325 k ∧ ∀ i, i < 16 → m'.1 324 (16 * k + i) = m.1 324 (16 * k + i)) ∧ ∀ a i, a < 314 → m'.1 a i = m.1 a i) := by
  refine fC_of (by decide) (fun d n P H => ?_)
  have bad : ∀ n m2, (∀ a i, a < 314 ∨ a = 315 ∨ (a = 314 ∧ (i = 6 ∨ i = 26 ∨ i = 7 ∨ i = 30)) ∨ (a = 324 ∧ i < 64) ∨ (a = 325 ∧ i < 4) → m2.1 a i = m.1 a i) → (¬ FA N (tt u) z (-1) ∨ (z = 1 ∧ L = 4) ∨ (z = 2 ∧ K = 4)) → xF 191 (xw d) P n 52 [(0, .ref 314), (1, .int z)] [] m2 → ∃ rv m', P rv m' ∧ txO N (tt u) z (m.1 314 26) L K rv (m'.1 314 6) (m'.1 314 26) (m'.1 314 7) (m'.1 314 30) ∧ m'.1 315 = u ∧ (z = 2 → FA N (tt u) z (-1) → K < 4 → m'.1 325 K = nI (wk0 N (tt u)).1 ∧ ∀ i, i < (wk0 N (tt u)).1 → i < 16 → m'.1 324 (16 * K + i) = (wk0 N (tt u)).2.1 i) ∧ (∀ k, k < K → m'.1 325 k = m.1 325 k ∧ ∀ i, i < 16 → m'.1 324 (16 * k + i) = m.1 324 (16 * k + i)) ∧ ∀ a i, a < 314 → m'.1 a i = m.1 a i := by
    intro n m2 hf hbad H
    replace H := f_iconst H k191_52 (v := -1) (by decide)
    replace H := f_iret H k191_53
    refine ⟨_, _, H, Or.inl ⟨hbad, rfl, ?_, ?_, ?_, ?_⟩, ?_, fun e q k4 => ?_, fun k hk => ⟨hf 325 k (by omega), fun i hi => hf 324 _ (by omega)⟩, fun a i ha => hf a i (by omega)⟩
    · rw [hf 314 6 (by omega)]; exact h1
    · exact hf 314 26 (by omega)
    · rw [hf 314 7 (by omega)]; exact hL
    · rw [hf 314 30 (by omega)]; exact hK
    · rw [← h2]; exact funext fun j => hf 315 j (by omega)
    · rcases hbad with c | ⟨c, -⟩ | ⟨-, c⟩
      · exact absurd q c
      · rw [c] at e; exact absurd e (by decide)
      · omega
  have k2 : (2 : Int32).toInt = 2 := by decide
  have k0 : (0 : Int32).toInt = 0 := by decide
  have hz : ∀ k : Int32, z.toInt = k.toInt → z = k := fun k h => Int32.toInt_inj.mp h
  replace H := f_aload_n H k191_0 rfl
  replace H := f_iconst H k191_1 (v := 0) (by decide)
  replace H := f_put_i H k191_2 (ci := 12) (f := 0) (by decide +kernel) (by decide)
  have hI1 : gI tS tR (mI m 314 0 0) := gI_m2 hI (by decide +kernel)
  have hj1 : jM (mI m 314 0 0) := jM_c (by decide) hj
  have p1 : ∀ a i, ¬ (a = 314 ∧ i = 0) → (mI m 314 0 0).1 a i = m.1 a i := fun a i h => mI_ne h
  generalize mI m 314 0 0 = m1 at *
  have hr : rS m1 := hI1.2
  replace H := f_iload_n H k191_5 rfl
  replace H := f_i2l H k191_6
  replace H := f_lconst H k191_7 (v := 0) (by decide)
  replace H := f_ldc2 H k191_8 (v := 2) (by decide +kernel)
  obtain ⟨rv, m', ⟨ho, rfl⟩, h9_11⟩ := f_ins H k191_11 (by decide +kernel) (as := [.long _, .long _, .long _]) (r := []) (by rfl) (c_isInK (v := z) (l := 0) (mo := 2) (by decide) (by decide))
  replace H := h9_11
  rcases ho with ⟨o1, o2, rfl⟩ | ⟨o1, rfl⟩
  case inr =>
    replace H := f_if_eq_t H k191_14 rfl (t := 52) (by decide)
    rw [Int32.lt_iff_toInt_lt, Int32.lt_iff_toInt_lt] at o1
    refine bad _ m1 (fun a i h => p1 a i (by omega)) (Or.inl (fun q => ?_)) H
    rcases q with ⟨q, -⟩ | ⟨q, -⟩ | ⟨q, -⟩ | ⟨-, -, -, q⟩
    · rw [q] at o1; revert o1; decide
    · rw [q] at o1; revert o1; decide
    · rw [q] at o1; revert o1; decide
    · exact absurd q (by decide)
  replace H := f_if_eq_f H k191_14 (by decide)
  rw [Int32.le_iff_toInt_le] at o1 o2
  rw [k0] at o1
  rw [k2] at o2
  -- the reading and what is behind it
  have main : ∀ n, (z = 1 → L < 4) → (z = 2 → K < 4) → (z = 0 ∨ z = 1 ∨ z = 2) → xF 191 (xw d) P n 43 [(0, .ref 314), (1, .int z)] [] m1 → ∃ rv m', P rv m' ∧ txO N (tt u) z (m.1 314 26) L K rv (m'.1 314 6) (m'.1 314 26) (m'.1 314 7) (m'.1 314 30) ∧ m'.1 315 = u ∧ (z = 2 → FA N (tt u) z (-1) → K < 4 → m'.1 325 K = nI (wk0 N (tt u)).1 ∧ ∀ i, i < (wk0 N (tt u)).1 → i < 16 → m'.1 324 (16 * K + i) = (wk0 N (tt u)).2.1 i) ∧ (∀ k, k < K → m'.1 325 k = m.1 325 k ∧ ∀ i, i < 16 → m'.1 324 (16 * k + i) = m.1 324 (16 * k + i)) ∧ ∀ a i, a < 314 → m'.1 a i = m.1 a i := by
    intro n hzL hzK h3 H
    replace H := f_aload_n H k191_43 rfl
    replace H := f_iload_n H k191_44 rfl
    obtain ⟨rv, m2, ⟨⟨v, rfl, fa, f0, f2⟩, hI2, fr, -⟩, h9_45⟩ := f_inv H k191_45 (by decide +kernel) (as := [.int _]) (b := 314) (r := []) (by rfl) (fC_two (c_mfault hr (by rw [p1 314 6 (by omega)]; exact h1) hN (by rw [← h2]; exact funext fun j => p1 315 j (by omega)) hb) (fC_vC ux8 hI1 hj1 ⟨aR_a 314, aI_a z, trivial⟩ gF_nil))
    replace H := h9_45
    have h9 : ∀ q ∈ ux8c.2.2.2.2, 314 ≤ q.1 ∧ q.1 ≠ 315 ∧ (q.1 = 314 → (q.2.2 ≤ 6 ∨ (8 ≤ q.2.1 ∧ q.2.2 ≤ 26) ∨ (27 ≤ q.2.1 ∧ q.2.2 ≤ 30) ∨ 31 ≤ q.2.1)) ∧ (q.1 = 324 → 64 ≤ q.2.1) ∧ (q.1 = 325 → 4 ≤ q.2.1) := by decide
    have hf : ∀ a i, a < 314 ∨ a = 315 ∨ (a = 314 ∧ (i = 6 ∨ i = 26 ∨ i = 7 ∨ i = 30)) ∨ (a = 324 ∧ i < 64) ∨ (a = 325 ∧ i < 4) → m2.1 a i = m.1 a i := fun a i h => by
      rw [fr a i (wm_f (fun q hq z => by have := h9 q hq; omega))]
      exact p1 a i (by omega)
    have hr : rS m2 := hI2.2
    replace H := f_iconst H k191_48 (v := -1) (by decide)
    have Hbr := f_icmp_eq H k191_49 (t := 54) (by decide)
    clear H
    rcases Hbr with ⟨c0, H⟩ | ⟨c0, H⟩
    · subst c0
      replace H := f_aload_n H k191_54 rfl
      replace H := f_gi H k191_55 (ci := 12) (f := 6) (by decide +kernel) (by decide)
      replace H := f_istore_n H k191_58 (l2 := [(2, .int _), (0, .ref 314), (1, .int z)]) rfl
      replace H := f_aload_n H k191_59 rfl
      replace H := f_iconst H k191_60 (v := 0) (by decide)
      replace H := f_put_i H k191_61 (ci := 12) (f := 6) (by decide +kernel) (by decide)
      replace H := f_iload_n H k191_64 rfl
      replace H := f_iconst H k191_65 (v := 1) (by decide)
      rw [hf 314 6 (by omega), h1] at H
      have q7 : m2.1 314 7 = nI L := by rw [hf 314 7 (by omega)]; exact hL
      have q30 : m2.1 314 30 = nI K := by rw [hf 314 30 (by omega)]; exact hK
      have q315 : m2.1 315 = u := by rw [← h2]; exact funext fun j => hf 315 j (by omega)
      have G0 : mtG u m (mI m2 314 6 0) (m.1 314 26) L K := ⟨hr, mI_at, by rw [mI_ne (by omega)]; exact hf 314 26 (by omega), by rw [mI_ne (by omega)]; exact q7, by rw [mI_ne (by omega)]; exact q30, by rw [← q315]; exact funext fun j => mI_ne (by omega), fun i hi => by rw [mI_ne (by omega)]; exact hf 325 i (by omega), fun i hi => by rw [mI_ne (by omega)]; exact hf 324 i (by omega), fun a i ha => by rw [mI_ne (by omega)]; exact hf a i (by omega)⟩
      rcases h3 with rfl | rfl | rfl
      · obtain ⟨S, f, x1, x2, -⟩ := f0 rfl rfl
        have s1 : (mI m2 314 6 0).1 314 28 = nI S.1 := by rw [mI_ne (by omega)]; exact x2.1
        generalize mI m2 314 6 0 = m3 at *
        have hr : rS m3 := G0.1
        replace H := f_icmp_ne_t H k191_66 (by decide) (t := 130) (by decide)
        replace H := f_iload_n H k191_130 rfl
        replace H := f_iconst H k191_131 (v := 2) (by decide)
        replace H := f_icmp_ne_t H k191_132 (by decide) (t := 204) (by decide)
        have GE : ∀ m5, mtG u m m5 (nI S.1) L K → ∀ n x, xF 191 (xw d) P n 375 [(3, .int x), (2, .int (nI N)), (0, .ref 314), (1, .int 0)] [] m5 → ∃ rv m', P rv m' ∧ txO N (tt u) 0 (m.1 314 26) L K rv (m'.1 314 6) (m'.1 314 26) (m'.1 314 7) (m'.1 314 30) ∧ m'.1 315 = u ∧ ((0 : Int32) = 2 → FA N (tt u) 0 (-1) → K < 4 → m'.1 325 K = nI (wk0 N (tt u)).1 ∧ ∀ i, i < (wk0 N (tt u)).1 → i < 16 → m'.1 324 (16 * K + i) = (wk0 N (tt u)).2.1 i) ∧ (∀ k, k < K → m'.1 325 k = m.1 325 k ∧ ∀ i, i < 16 → m'.1 324 (16 * k + i) = m.1 324 (16 * k + i)) ∧ ∀ a i, a < 314 → m'.1 a i = m.1 a i := by
          intro m5 G5 n x H
          have hr : rS m5 := G5.1
          replace H := f_aload_n H k191_375 rfl
          replace H := f_gr H k191_376 (ci := 12) (f := 32) (x := 326) (by decide +kernel) (by decide) (hr 314 32 326 rfl)
          replace H := f_bipush H k191_379 (v := 25) (by decide)
          replace H := f_aload_n H k191_381 rfl
          replace H := f_gr H k191_382 (ci := 12) (f := 18) (x := 319) (by decide +kernel) (by decide) (hr 314 18 319 rfl)
          replace H := f_iconst H k191_385 (v := 1) (by decide)
          have Hob := f_iald H k191_386 (c := 2) (by decide)
          clear H
          obtain ⟨hb386, H⟩ := Hob
          have Hob := f_iast H k191_387 (c := 208) (by decide)
          clear H
          obtain ⟨hb387, H⟩ := Hob
          replace H := f_aload_n H k191_388 rfl
          replace H := f_iconst H k191_389 (v := 0) (by decide)
          replace H := f_put_i H k191_390 (ci := 12) (f := 51) (by decide +kernel) (by decide)
          replace H := f_aload_n H k191_393 rfl
          replace H := f_iconst H k191_394 (v := 0) (by decide)
          replace H := f_put_i H k191_395 (ci := 12) (f := 42) (by decide +kernel) (by decide)
          replace H := f_aload_n H k191_398 rfl
          replace H := f_iconst H k191_399 (v := 0) (by decide)
          replace H := f_put_b H k191_400 (ci := 12) (f := 53) (by decide +kernel) (by decide)
          replace H := f_aload_n H k191_403 rfl
          replace H := f_gi H k191_404 (ci := 12) (f := 26) (by decide +kernel) (by decide)
          rw [mI_ne (by omega), mI_ne (by omega), mI_ne (by omega), mI_ne (by omega), G5.2.2.1] at H
          obtain ⟨m6, em, H⟩ := f_mem H
          have G6 : mtG u m m6 (nI S.1) L K := by rw [em]; exact mtG_s (mtG_s (mtG_s (mtG_s G5 (by decide)) (by decide)) (by decide)) (by decide)
          clear em
          replace H := f_iret H k191_407
          obtain ⟨-, y1, y2, y3, y4, y5, y6, y7, y8⟩ := G6
          exact ⟨_, _, H, Or.inr (Or.inl ⟨fa, rfl, S, f, x1, rfl, y1, y2, y3, y4⟩), y5, fun e => absurd e (by decide), fun k hk => ⟨y6 k (by omega), fun i hi => y7 _ (by omega)⟩, y8⟩
        have lE : ∀ n k m5, mtG u m m5 (nI S.1) L K → xF 191 (xw d) P (n + 1) 339 [(3, .int k), (2, .int (nI N)), (0, .ref 314), (1, .int 0)] [] m5 → ∃ rv m', P rv m' ∧ txO N (tt u) 0 (m.1 314 26) L K rv (m'.1 314 6) (m'.1 314 26) (m'.1 314 7) (m'.1 314 30) ∧ m'.1 315 = u ∧ ((0 : Int32) = 2 → FA N (tt u) 0 (-1) → K < 4 → m'.1 325 K = nI (wk0 N (tt u)).1 ∧ ∀ i, i < (wk0 N (tt u)).1 → i < 16 → m'.1 324 (16 * K + i) = (wk0 N (tt u)).2.1 i) ∧ (∀ k, k < K → m'.1 325 k = m.1 325 k ∧ ∀ i, i < 16 → m'.1 324 (16 * k + i) = m.1 324 (16 * k + i)) ∧ ∀ a i, a < 314 → m'.1 a i = m.1 a i := by
          intro n
          induction n with
          | zero => exact fun k m5 _ H => (xF_0 (f1_iload_n H k191_339 rfl)).elim
          | succ n ih =>
            intro k m5 G5 H
            have hr : rS m5 := G5.1
            replace H := f1_iload_n H k191_339 rfl
            replace H := f_aload_n H k191_340 rfl
            replace H := f_gi H k191_341 (ci := 12) (f := 26) (by decide +kernel) (by decide)
            have Hbr := f_icmp_ge H k191_344 (t := 375) (by decide)
            clear H
            rcases Hbr with ⟨c, H⟩ | ⟨c, H⟩
            · exact GE m5 G5 _ k H
            · replace H := f_aload_n H k191_347 rfl
              replace H := f_gr H k191_348 (ci := 12) (f := 32) (x := 326) (by decide +kernel) (by decide) (hr 314 32 326 rfl)
              replace H := f_bipush H k191_351 (v := 24) (by decide)
              replace H := f_dup2 H k191_353
              have Hob := f_iald H k191_354 (c := 208) (by decide)
              clear H
              obtain ⟨hb354, H⟩ := Hob
              replace H := f_aload_n H k191_355 rfl
              replace H := f_gr H k191_356 (ci := 12) (f := 19) (x := 320) (by decide +kernel) (by decide) (hr 314 19 320 rfl)
              replace H := f_iconst H k191_359 (v := 4) (by decide)
              replace H := f_iload_n H k191_360 rfl
              replace H := f_imul H k191_361
              replace H := f_iconst H k191_362 (v := 3) (by decide)
              replace H := f_iadd H k191_363
              have Hob := f_iald H k191_364 (c := 48) (by decide)
              clear H
              obtain ⟨hb364, H⟩ := Hob
              replace H := f_iload_n H k191_365 rfl
              replace H := f_ishl H k191_366
              replace H := f_ior H k191_367
              have Hob := f_iast H k191_368 (c := 208) (by decide)
              clear H
              obtain ⟨hb368, H⟩ := Hob
              replace H := f_iinc H k191_369 rfl (l2 := [(3, .int (k + 1)), (2, .int (nI N)), (0, .ref 314), (1, .int 0)]) rfl
              replace H := f_goto H k191_372 (t := 339) (by decide)
              exact ih _ _ (mtG_s G5 ⟨by decide, by decide, by decide, by decide, fun h => absurd h (by decide)⟩) H
        have lD : ∀ n k m5, mtG u m m5 (nI S.1) L K → xF 191 (xw d) P (n + 1) 306 [(3, .int k), (2, .int (nI N)), (0, .ref 314), (1, .int 0)] [] m5 → ∃ rv m', P rv m' ∧ txO N (tt u) 0 (m.1 314 26) L K rv (m'.1 314 6) (m'.1 314 26) (m'.1 314 7) (m'.1 314 30) ∧ m'.1 315 = u ∧ ((0 : Int32) = 2 → FA N (tt u) 0 (-1) → K < 4 → m'.1 325 K = nI (wk0 N (tt u)).1 ∧ ∀ i, i < (wk0 N (tt u)).1 → i < 16 → m'.1 324 (16 * K + i) = (wk0 N (tt u)).2.1 i) ∧ (∀ k, k < K → m'.1 325 k = m.1 325 k ∧ ∀ i, i < 16 → m'.1 324 (16 * k + i) = m.1 324 (16 * k + i)) ∧ ∀ a i, a < 314 → m'.1 a i = m.1 a i := by
          intro n
          induction n with
          | zero => exact fun k m5 _ H => (xF_0 (f1_iload_n H k191_306 rfl)).elim
          | succ n ih =>
            intro k m5 G5 H
            have hr : rS m5 := G5.1
            replace H := f1_iload_n H k191_306 rfl
            replace H := f_iconst H k191_307 (v := 2) (by decide)
            replace H := f_aload_n H k191_308 rfl
            replace H := f_gi H k191_309 (ci := 12) (f := 27) (by decide +kernel) (by decide)
            replace H := f_imul H k191_312
            have Hbr := f_icmp_ge H k191_313 (t := 337) (by decide)
            clear H
            rcases Hbr with ⟨c, H⟩ | ⟨c, H⟩
            · replace H := f_iconst H k191_337 (v := 0) (by decide)
              replace H := f_istore_n H k191_338 (l2 := [(3, .int 0), (2, .int (nI N)), (0, .ref 314), (1, .int 0)]) rfl
              exact lE n 0 m5 G5 H
            · replace H := f_aload_n H k191_316 rfl
              replace H := f_gr H k191_317 (ci := 12) (f := 32) (x := 326) (by decide +kernel) (by decide) (hr 314 32 326 rfl)
              replace H := f_bipush H k191_320 (v := 16) (by decide)
              replace H := f_iload_n H k191_322 rfl
              replace H := f_iadd H k191_323
              replace H := f_aload_n H k191_324 rfl
              replace H := f_gr H k191_325 (ci := 12) (f := 21) (x := 322) (by decide +kernel) (by decide) (hr 314 21 322 rfl)
              replace H := f_iload_n H k191_328 rfl
              have Hob := f_iald H k191_329 (c := 8) (by decide)
              clear H
              obtain ⟨hb329, H⟩ := Hob
              have Hob := f_iast H k191_330 (c := 208) (by decide)
              clear H
              obtain ⟨hb330, H⟩ := Hob
              replace H := f_iinc H k191_331 rfl (l2 := [(3, .int (k + 1)), (2, .int (nI N)), (0, .ref 314), (1, .int 0)]) rfl
              replace H := f_goto H k191_334 (t := 306) (by decide)
              exact ih _ _ (mtG_s G5 ⟨by decide, by decide, by decide, by decide, fun h => absurd h (by decide)⟩) H
        have lC : ∀ n k m5, mtG u m m5 (nI S.1) L K → xF 191 (xw d) P (n + 1) 284 [(3, .int k), (2, .int (nI N)), (0, .ref 314), (1, .int 0)] [] m5 → ∃ rv m', P rv m' ∧ txO N (tt u) 0 (m.1 314 26) L K rv (m'.1 314 6) (m'.1 314 26) (m'.1 314 7) (m'.1 314 30) ∧ m'.1 315 = u ∧ ((0 : Int32) = 2 → FA N (tt u) 0 (-1) → K < 4 → m'.1 325 K = nI (wk0 N (tt u)).1 ∧ ∀ i, i < (wk0 N (tt u)).1 → i < 16 → m'.1 324 (16 * K + i) = (wk0 N (tt u)).2.1 i) ∧ (∀ k, k < K → m'.1 325 k = m.1 325 k ∧ ∀ i, i < 16 → m'.1 324 (16 * k + i) = m.1 324 (16 * k + i)) ∧ ∀ a i, a < 314 → m'.1 a i = m.1 a i := by
          intro n
          induction n with
          | zero => exact fun k m5 _ H => (xF_0 (f1_iload_n H k191_284 rfl)).elim
          | succ n ih =>
            intro k m5 G5 H
            have hr : rS m5 := G5.1
            replace H := f1_iload_n H k191_284 rfl
            replace H := f_sipush H k191_285 (v := 208) (by decide)
            have Hbr := f_icmp_ge H k191_288 (t := 304) (by decide)
            clear H
            rcases Hbr with ⟨c, H⟩ | ⟨c, H⟩
            · replace H := f_iconst H k191_304 (v := 0) (by decide)
              replace H := f_istore_n H k191_305 (l2 := [(3, .int 0), (2, .int (nI N)), (0, .ref 314), (1, .int 0)]) rfl
              exact lD n 0 m5 G5 H
            · replace H := f_aload_n H k191_291 rfl
              replace H := f_gr H k191_292 (ci := 12) (f := 32) (x := 326) (by decide +kernel) (by decide) (hr 314 32 326 rfl)
              replace H := f_iload_n H k191_295 rfl
              replace H := f_iconst H k191_296 (v := 0) (by decide)
              have Hob := f_iast H k191_297 (c := 208) (by decide)
              clear H
              obtain ⟨hb297, H⟩ := Hob
              replace H := f_iinc H k191_298 rfl (l2 := [(3, .int (k + 1)), (2, .int (nI N)), (0, .ref 314), (1, .int 0)]) rfl
              replace H := f_goto H k191_301 (t := 284) (by decide)
              exact ih _ _ (mtG_s G5 ⟨by decide, by decide, by decide, by decide, fun h => absurd h (by decide)⟩) H
        have lB : ∀ n k m5, mtG u m m5 (nI S.1) L K → xF 191 (xw d) P (n + 1) 258 [(3, .int k), (2, .int (nI N)), (0, .ref 314), (1, .int 0)] [] m5 → ∃ rv m', P rv m' ∧ txO N (tt u) 0 (m.1 314 26) L K rv (m'.1 314 6) (m'.1 314 26) (m'.1 314 7) (m'.1 314 30) ∧ m'.1 315 = u ∧ ((0 : Int32) = 2 → FA N (tt u) 0 (-1) → K < 4 → m'.1 325 K = nI (wk0 N (tt u)).1 ∧ ∀ i, i < (wk0 N (tt u)).1 → i < 16 → m'.1 324 (16 * K + i) = (wk0 N (tt u)).2.1 i) ∧ (∀ k, k < K → m'.1 325 k = m.1 325 k ∧ ∀ i, i < 16 → m'.1 324 (16 * k + i) = m.1 324 (16 * k + i)) ∧ ∀ a i, a < 314 → m'.1 a i = m.1 a i := by
          intro n
          induction n with
          | zero => exact fun k m5 _ H => (xF_0 (f1_iload_n H k191_258 rfl)).elim
          | succ n ih =>
            intro k m5 G5 H
            have hr : rS m5 := G5.1
            replace H := f1_iload_n H k191_258 rfl
            replace H := f_bipush H k191_259 (v := 8) (by decide)
            have Hbr := f_icmp_ge H k191_261 (t := 282) (by decide)
            clear H
            rcases Hbr with ⟨c, H⟩ | ⟨c, H⟩
            · replace H := f_iconst H k191_282 (v := 0) (by decide)
              replace H := f_istore_n H k191_283 (l2 := [(3, .int 0), (2, .int (nI N)), (0, .ref 314), (1, .int 0)]) rfl
              exact lC n 0 m5 G5 H
            · replace H := f_aload_n H k191_264 rfl
              replace H := f_gr H k191_265 (ci := 12) (f := 21) (x := 322) (by decide +kernel) (by decide) (hr 314 21 322 rfl)
              replace H := f_iload_n H k191_268 rfl
              replace H := f_aload_n H k191_269 rfl
              replace H := f_gr H k191_270 (ci := 12) (f := 22) (x := 323) (by decide +kernel) (by decide) (hr 314 22 323 rfl)
              replace H := f_iload_n H k191_273 rfl
              have Hob := f_iald H k191_274 (c := 8) (by decide)
              clear H
              obtain ⟨hb274, H⟩ := Hob
              have Hob := f_iast H k191_275 (c := 8) (by decide)
              clear H
              obtain ⟨hb275, H⟩ := Hob
              replace H := f_iinc H k191_276 rfl (l2 := [(3, .int (k + 1)), (2, .int (nI N)), (0, .ref 314), (1, .int 0)]) rfl
              replace H := f_goto H k191_279 (t := 258) (by decide)
              exact ih _ _ (mtG_s G5 ⟨by decide, by decide, by decide, by decide, fun h => absurd h (by decide)⟩) H
        have lA : ∀ n k m5, mtG u m m5 (nI S.1) L K → xF 191 (xw d) P (n + 1) 232 [(3, .int k), (2, .int (nI N)), (0, .ref 314), (1, .int 0)] [] m5 → ∃ rv m', P rv m' ∧ txO N (tt u) 0 (m.1 314 26) L K rv (m'.1 314 6) (m'.1 314 26) (m'.1 314 7) (m'.1 314 30) ∧ m'.1 315 = u ∧ ((0 : Int32) = 2 → FA N (tt u) 0 (-1) → K < 4 → m'.1 325 K = nI (wk0 N (tt u)).1 ∧ ∀ i, i < (wk0 N (tt u)).1 → i < 16 → m'.1 324 (16 * K + i) = (wk0 N (tt u)).2.1 i) ∧ (∀ k, k < K → m'.1 325 k = m.1 325 k ∧ ∀ i, i < 16 → m'.1 324 (16 * k + i) = m.1 324 (16 * k + i)) ∧ ∀ a i, a < 314 → m'.1 a i = m.1 a i := by
          intro n
          induction n with
          | zero => exact fun k m5 _ H => (xF_0 (f1_iload_n H k191_232 rfl)).elim
          | succ n ih =>
            intro k m5 G5 H
            have hr : rS m5 := G5.1
            replace H := f1_iload_n H k191_232 rfl
            replace H := f_bipush H k191_233 (v := 48) (by decide)
            have Hbr := f_icmp_ge H k191_235 (t := 256) (by decide)
            clear H
            rcases Hbr with ⟨c, H⟩ | ⟨c, H⟩
            · replace H := f_iconst H k191_256 (v := 0) (by decide)
              replace H := f_istore_n H k191_257 (l2 := [(3, .int 0), (2, .int (nI N)), (0, .ref 314), (1, .int 0)]) rfl
              exact lB n 0 m5 G5 H
            · replace H := f_aload_n H k191_238 rfl
              replace H := f_gr H k191_239 (ci := 12) (f := 19) (x := 320) (by decide +kernel) (by decide) (hr 314 19 320 rfl)
              replace H := f_iload_n H k191_242 rfl
              replace H := f_aload_n H k191_243 rfl
              replace H := f_gr H k191_244 (ci := 12) (f := 20) (x := 321) (by decide +kernel) (by decide) (hr 314 20 321 rfl)
              replace H := f_iload_n H k191_247 rfl
              have Hob := f_iald H k191_248 (c := 48) (by decide)
              clear H
              obtain ⟨hb248, H⟩ := Hob
              have Hob := f_iast H k191_249 (c := 48) (by decide)
              clear H
              obtain ⟨hb249, H⟩ := Hob
              replace H := f_iinc H k191_250 rfl (l2 := [(3, .int (k + 1)), (2, .int (nI N)), (0, .ref 314), (1, .int 0)]) rfl
              replace H := f_goto H k191_253 (t := 232) (by decide)
              exact ih _ _ (mtG_s G5 ⟨by decide, by decide, by decide, by decide, fun h => absurd h (by decide)⟩) H
        replace H := f_aload_n H k191_204 rfl
        replace H := f_aload_n H k191_205 rfl
        replace H := f_gr H k191_206 (ci := 12) (f := 18) (x := 319) (by decide +kernel) (by decide) (hr 314 18 319 rfl)
        replace H := f_iconst H k191_209 (v := 0) (by decide)
        have Hob := f_iald H k191_210 (c := 2) (by decide)
        clear H
        obtain ⟨hb210, H⟩ := Hob
        replace H := f_put_i H k191_211 (ci := 12) (f := 25) (by decide +kernel) (by decide)
        replace H := f_aload_n H k191_214 rfl
        replace H := f_aload_n H k191_215 rfl
        replace H := f_gi H k191_216 (ci := 12) (f := 28) (by decide +kernel) (by decide)
        replace H := f_put_i H k191_219 (ci := 12) (f := 26) (by decide +kernel) (by decide)
        replace H := f_aload_n H k191_222 rfl
        replace H := f_aload_n H k191_223 rfl
        replace H := f_gi H k191_224 (ci := 12) (f := 29) (by decide +kernel) (by decide)
        replace H := f_put_i H k191_227 (ci := 12) (f := 27) (by decide +kernel) (by decide)
        replace H := f_iconst H k191_230 (v := 0) (by decide)
        replace H := f_istore_n H k191_231 (l2 := [(3, .int 0), (2, .int (nI N)), (0, .ref 314), (1, .int 0)]) rfl
        obtain ⟨m5, em, H⟩ := f_mem H
        have G5 : mtG u m m5 (nI S.1) L K := by
          obtain ⟨y0, y1, y2, y3, y4, y5, y6, y7, y8⟩ := G0
          have e28 : ∀ v, (mI m3 314 25 v).1 314 28 = nI S.1 := fun v => by rw [mI_ne (by omega)]; exact s1
          rw [em, e28]
          refine mtG_s (a := 314) (i := 27) ⟨y0, ?_, ?_, ?_, ?_, ?_, ?_, ?_, ?_⟩ (by decide)
          · rw [mI_ne (by omega), mI_ne (by omega)]; exact y1
          · rw [mI_at]
          · rw [mI_ne (by omega), mI_ne (by omega)]; exact y3
          · rw [mI_ne (by omega), mI_ne (by omega)]; exact y4
          · rw [← y5]; exact funext fun j => by rw [mI_ne (by omega), mI_ne (by omega)]
          · exact fun i hi => by rw [mI_ne (by omega), mI_ne (by omega)]; exact y6 i hi
          · exact fun i hi => by rw [mI_ne (by omega), mI_ne (by omega)]; exact y7 i hi
          · exact fun a i ha => by rw [mI_ne (by omega), mI_ne (by omega)]; exact y8 a i ha
        clear em
        exact lA n 0 m5 G5 (f_up H (Nat.le_succ _))
      · -- a law
        generalize mI m2 314 6 0 = m3 at *
        have hr : rS m3 := G0.1
        have hL5 : L < 4 := hzL rfl
        replace H := f_icmp_ne_f H k191_66 rfl
        replace H := f_iconst H k191_69 (v := 0) (by decide)
        replace H := f_istore_n H k191_70 (l2 := [(3, .int 0), (2, .int (nI N)), (0, .ref 314), (1, .int 1)]) rfl
        have lp : ∀ n k m5, mtG u m m5 (m.1 314 26) L K → xF 191 (xw d) P (n + 1) 71 [(3, .int k), (2, .int (nI N)), (0, .ref 314), (1, .int 1)] [] m5 → ∃ rv m', P rv m' ∧ txO N (tt u) 1 (m.1 314 26) L K rv (m'.1 314 6) (m'.1 314 26) (m'.1 314 7) (m'.1 314 30) ∧ m'.1 315 = u ∧ ((1 : Int32) = 2 → FA N (tt u) 1 (-1) → K < 4 → m'.1 325 K = nI (wk0 N (tt u)).1 ∧ ∀ i, i < (wk0 N (tt u)).1 → i < 16 → m'.1 324 (16 * K + i) = (wk0 N (tt u)).2.1 i) ∧ (∀ k, k < K → m'.1 325 k = m.1 325 k ∧ ∀ i, i < 16 → m'.1 324 (16 * k + i) = m.1 324 (16 * k + i)) ∧ ∀ a i, a < 314 → m'.1 a i = m.1 a i := by
          intro n
          induction n with
          | zero => exact fun k m5 _ H => (xF_0 (f1_iload_n H k191_71 rfl)).elim
          | succ n ih =>
            intro k m5 G5 H
            have hr : rS m5 := G5.1
            replace H := f1_iload_n H k191_71 rfl
            replace H := f_iload_n H k191_72 rfl
            have Hbr := f_icmp_ge H k191_73 (t := 103) (by decide)
            clear H
            rcases Hbr with ⟨c, H⟩ | ⟨c, H⟩
            · have y7 := G5.2.2.2.1
              replace H := f_aload_n H k191_103 rfl
              replace H := f_gr H k191_104 (ci := 12) (f := 3) (x := 317) (by decide +kernel) (by decide) (hr 314 3 317 rfl)
              replace H := f_aload_n H k191_107 rfl
              replace H := f_gi H k191_108 (ci := 12) (f := 7) (by decide +kernel) (by decide)
              replace H := f_iload_n H k191_111 rfl
              have Hob := f_iast H k191_112 (c := 4) (by decide)
              clear H
              obtain ⟨hb112, H⟩ := Hob
              replace H := f_aload_n H k191_113 rfl
              replace H := f_dup H k191_114
              replace H := f_gi H k191_115 (ci := 12) (f := 7) (by decide +kernel) (by decide)
              replace H := f_iconst H k191_118 (v := 1) (by decide)
              replace H := f_iadd H k191_119
              replace H := f_put_i H k191_120 (ci := 12) (f := 7) (by decide +kernel) (by decide)
              replace H := f_aload_n H k191_123 rfl
              replace H := f_gi H k191_124 (ci := 12) (f := 7) (by decide +kernel) (by decide)
              replace H := f_iconst H k191_127 (v := 1) (by decide)
              replace H := f_isub H k191_128
              rw [mI_at, mI_ne (by omega), y7] at H
              replace H := f_iret H k191_129
              have G6 : mtG u m (mI m5 317 (nI L).toNatClampNeg (nI N)) (m.1 314 26) L K := mtG_s G5 ⟨by decide, by decide, by decide, by decide, fun h => absurd h (by decide)⟩
              obtain ⟨-, y1, y2, y3, y4, y5, y6, y7, y8⟩ := G6
              have e1 : nI L + 1 - 1 = nI L := by
                have h5 : L = 0 ∨ L = 1 ∨ L = 2 ∨ L = 3 := by omega
                rcases h5 with rfl | rfl | rfl | rfl <;> decide
              rw [e1] at H
              refine ⟨_, _, H, Or.inr (Or.inr (Or.inl ⟨fa, rfl, hL5, rfl, ?_, ?_, ?_, ?_⟩)), ?_, fun e => absurd e (by decide), fun k hk => ⟨?_, fun i hi => ?_⟩, fun a i ha => ?_⟩
              · rw [mI_ne (by omega)]; exact y1
              · rw [mI_ne (by omega)]; exact y2
              · rw [mI_at, nI_s]
              · rw [mI_ne (by omega)]; exact y4
              · rw [← y5]; exact funext fun j => mI_ne (by omega)
              · rw [mI_ne (by omega)]; exact y6 k (by omega)
              · rw [mI_ne (by omega)]; exact y7 _ (by omega)
              · rw [mI_ne (by omega)]; exact y8 a i ha
            · replace H := f_aload_n H k191_76 rfl
              replace H := f_gr H k191_77 (ci := 12) (f := 2) (x := 316) (by decide +kernel) (by decide) (hr 314 2 316 rfl)
              replace H := f_sipush H k191_80 (v := 240) (by decide)
              replace H := f_aload_n H k191_83 rfl
              replace H := f_gi H k191_84 (ci := 12) (f := 7) (by decide +kernel) (by decide)
              replace H := f_imul H k191_87
              replace H := f_iload_n H k191_88 rfl
              replace H := f_iadd H k191_89
              replace H := f_aload_n H k191_90 rfl
              replace H := f_gr H k191_91 (ci := 12) (f := 1) (x := 315) (by decide +kernel) (by decide) (hr 314 1 315 rfl)
              replace H := f_iload_n H k191_94 rfl
              have Hob := f_bald H k191_95 (c := 240) (by decide)
              clear H
              obtain ⟨hb95, H⟩ := Hob
              have Hob := f_bast H k191_96 (c := 960) (by decide)
              clear H
              obtain ⟨hb96, H⟩ := Hob
              replace H := f_iinc H k191_97 rfl (l2 := [(3, .int (k + 1)), (2, .int (nI N)), (0, .ref 314), (1, .int 1)]) rfl
              replace H := f_goto H k191_100 (t := 71) (by decide)
              exact ih _ _ (mtG_s G5 ⟨by decide, by decide, by decide, by decide, fun h => absurd h (by decide)⟩) H
        exact lp n 0 m3 G0 (f_up H (Nat.le_succ _))
      · -- a walk
        obtain ⟨w1, w2⟩ := f2 rfl
        have w1 : (mI m2 314 6 0).1 325 4 = nI (wk0 N (tt u)).1 := by rw [mI_ne (by omega)]; exact w1
        have w2 : ∀ i, i < (wk0 N (tt u)).1 → (mI m2 314 6 0).1 324 (64 + i) = (wk0 N (tt u)).2.1 i := fun i hi => by rw [mI_ne (by omega)]; exact w2 i hi
        generalize mI m2 314 6 0 = m3 at *
        have hr : rS m3 := G0.1
        have hK5 : K < 4 := hzK rfl
        replace H := f_icmp_ne_t H k191_66 (by decide) (t := 130) (by decide)
        replace H := f_iload_n H k191_130 rfl
        replace H := f_iconst H k191_131 (v := 2) (by decide)
        replace H := f_icmp_ne_f H k191_132 rfl
        replace H := f_iconst H k191_135 (v := 0) (by decide)
        replace H := f_istore_n H k191_136 (l2 := [(3, .int 0), (2, .int (nI N)), (0, .ref 314), (1, .int 2)]) rfl
        have e16 : (16 : Int32) * nI K = nI (16 * K) := (Int32.ofNat_mul 16 K).symm
        have lp : ∀ n k m5, k ≤ 16 → rS m5 → (∀ a i, ¬ (a = 324) → m5.1 a i = m3.1 a i) → (∀ i, ¬ (16 * K ≤ i ∧ i < 16 * K + k) → m5.1 324 i = m3.1 324 i) → (∀ i, i < k → m5.1 324 (16 * K + i) = m3.1 324 (64 + i)) → xF 191 (xw d) P (n + 1) 137 [(3, .int (nI k)), (2, .int (nI N)), (0, .ref 314), (1, .int 2)] [] m5 → ∃ rv m', P rv m' ∧ txO N (tt u) 2 (m.1 314 26) L K rv (m'.1 314 6) (m'.1 314 26) (m'.1 314 7) (m'.1 314 30) ∧ m'.1 315 = u ∧ ((2 : Int32) = 2 → FA N (tt u) 2 (-1) → K < 4 → m'.1 325 K = nI (wk0 N (tt u)).1 ∧ ∀ i, i < (wk0 N (tt u)).1 → i < 16 → m'.1 324 (16 * K + i) = (wk0 N (tt u)).2.1 i) ∧ (∀ k, k < K → m'.1 325 k = m.1 325 k ∧ ∀ i, i < 16 → m'.1 324 (16 * k + i) = m.1 324 (16 * k + i)) ∧ ∀ a i, a < 314 → m'.1 a i = m.1 a i := by
          intro n
          induction n with
          | zero => exact fun k m5 _ _ _ _ _ H => (xF_0 (f1_iload_n H k191_137 rfl)).elim
          | succ n ih =>
            intro k m5 hk hr v1 v2 v3 H
            have v30 : m5.1 314 30 = nI K := by rw [v1 314 30 (by omega)]; exact G0.2.2.2.2.1
            replace H := f1_iload_n H k191_137 rfl
            replace H := f_bipush H k191_138 (v := 16) (by decide)
            have Hbr := f_icmp_ge H k191_140 (t := 172) (by decide)
            clear H
            rcases Hbr with ⟨c, H⟩ | ⟨c, H⟩
            · rw [Int32.le_iff_toInt_le, nI_toInt (by omega), show (16 : Int32).toInt = 16 by decide] at c
              have ek : k = 16 := by omega
              subst ek
              replace H := f_aload_n H k191_172 rfl
              replace H := f_gr H k191_173 (ci := 12) (f := 24) (x := 325) (by decide +kernel) (by decide) (hr 314 24 325 rfl)
              replace H := f_aload_n H k191_176 rfl
              replace H := f_gi H k191_177 (ci := 12) (f := 30) (by decide +kernel) (by decide)
              replace H := f_aload_n H k191_180 rfl
              replace H := f_gr H k191_181 (ci := 12) (f := 24) (x := 325) (by decide +kernel) (by decide) (hr 314 24 325 rfl)
              replace H := f_iconst H k191_184 (v := 4) (by decide)
              have Hob := f_iald H k191_185 (c := 5) (by decide)
              clear H
              obtain ⟨hb185, H⟩ := Hob
              have Hob := f_iast H k191_186 (c := 5) (by decide)
              clear H
              obtain ⟨hb186, H⟩ := Hob
              replace H := f_aload_n H k191_187 rfl
              replace H := f_dup H k191_188
              replace H := f_gi H k191_189 (ci := 12) (f := 30) (by decide +kernel) (by decide)
              replace H := f_iconst H k191_192 (v := 1) (by decide)
              replace H := f_iadd H k191_193
              replace H := f_put_i H k191_194 (ci := 12) (f := 30) (by decide +kernel) (by decide)
              replace H := f_aload_n H k191_197 rfl
              replace H := f_gi H k191_198 (ci := 12) (f := 30) (by decide +kernel) (by decide)
              replace H := f_iconst H k191_201 (v := 1) (by decide)
              replace H := f_isub H k191_202
              rw [mI_at, v30, mI_ne (by omega), v30, nI_clamp (by omega), show (4 : Int32).toNatClampNeg = 4 by decide] at H
              replace H := f_iret H k191_203
              have e1 : nI K + 1 - 1 = nI K := by
                have h5 : K = 0 ∨ K = 1 ∨ K = 2 ∨ K = 3 := by omega
                rcases h5 with rfl | rfl | rfl | rfl <;> decide
              rw [e1] at H
              obtain ⟨-, y1, y2, y3, y4, y5, y6, y7, y8⟩ := G0
              refine ⟨_, _, H, Or.inr (Or.inr (Or.inr ⟨fa, rfl, hK5, rfl, ?_, ?_, ?_, ?_⟩)), ?_, fun _ _ _ => ⟨?_, fun i hi h16 => ?_⟩, fun k hk => ⟨?_, fun i hi => ?_⟩, fun a i ha => ?_⟩
              · rw [mI_ne (by omega), mI_ne (by omega), v1 314 6 (by omega)]; exact y1
              · rw [mI_ne (by omega), mI_ne (by omega), v1 314 26 (by omega)]; exact y2
              · rw [mI_ne (by omega), mI_ne (by omega), v1 314 7 (by omega)]; exact y3
              · rw [mI_at, nI_s]
              · rw [← y5]; exact funext fun j => by rw [mI_ne (by omega), mI_ne (by omega), v1 315 j (by omega)]
              · rw [mI_ne (by omega), mI_at, v1 325 4 (by omega)]; exact w1
              · rw [mI_ne (by omega), mI_ne (by omega), v3 i h16]; exact w2 i hi
              · rw [mI_ne (by omega), mI_ne (by omega), v1 325 k (by omega)]; exact y6 k (by omega)
              · rw [mI_ne (by omega), mI_ne (by omega), v2 _ (by omega)]; exact y7 _ (by omega)
              · rw [mI_ne (by omega), mI_ne (by omega), v1 a i (by omega)]; exact y8 a i ha
            · rw [Int32.le_iff_toInt_le, nI_toInt (by omega), show (16 : Int32).toInt = 16 by decide] at c
              replace H := f_aload_n H k191_143 rfl
              replace H := f_gr H k191_144 (ci := 12) (f := 23) (x := 324) (by decide +kernel) (by decide) (hr 314 23 324 rfl)
              replace H := f_bipush H k191_147 (v := 16) (by decide)
              replace H := f_aload_n H k191_149 rfl
              replace H := f_gi H k191_150 (ci := 12) (f := 30) (by decide +kernel) (by decide)
              replace H := f_imul H k191_153
              replace H := f_iload_n H k191_154 rfl
              replace H := f_iadd H k191_155
              replace H := f_aload_n H k191_156 rfl
              replace H := f_gr H k191_157 (ci := 12) (f := 23) (x := 324) (by decide +kernel) (by decide) (hr 314 23 324 rfl)
              replace H := f_bipush H k191_160 (v := 64) (by decide)
              replace H := f_iload_n H k191_162 rfl
              replace H := f_iadd H k191_163
              have Hob := f_iald H k191_164 (c := 80) (by decide)
              clear H
              obtain ⟨hb164, H⟩ := Hob
              have Hob := f_iast H k191_165 (c := 80) (by decide)
              clear H
              obtain ⟨hb165, H⟩ := Hob
              replace H := f_iinc H k191_166 rfl (l2 := [(3, .int (nI k + 1)), (2, .int (nI N)), (0, .ref 314), (1, .int 2)]) rfl
              replace H := f_goto H k191_169 (t := 137) (by decide)
              rw [v30, e16, show nI (16 * K) + nI k = nI (16 * K + k) from r_ad _ _, show (64 : Int32) + nI k = nI (64 + k) from r_ad 64 k, nI_clamp (by omega), nI_clamp (by omega), nI_s] at H
              refine ih (k + 1) (mI m5 324 (16 * K + k) _) (by omega) hr (fun a i h => ?_) (fun i h => ?_) (fun i hi => ?_) H
              · rw [mI_ne (by omega)]; exact v1 a i h
              · rw [mI_ne (by omega)]; exact v2 i (by omega)
              · by_cases e : i = k
                · subst e
                  rw [mI_at, v2 _ (by omega)]
                · rw [mI_ne (by omega)]; exact v3 i (by omega)
        exact lp n 0 m3 (by omega) hr (fun _ _ _ => rfl) (fun _ _ => rfl) (fun i hi => absurd hi (Nat.not_lt_zero _)) (f_up H (Nat.le_succ _))
    · exact bad _ m2 hf (Or.inl (fun q => c0 (FA_det fa q))) H
  have h3 : z = 0 ∨ z = 1 ∨ z = 2 := by
    have : z.toInt = 0 ∨ z.toInt = 1 ∨ z.toInt = 2 := by omega
    rcases this with e | e | e
    · exact Or.inl (hz 0 e)
    · exact Or.inr (Or.inl (hz 1 e))
    · exact Or.inr (Or.inr (hz 2 e))
  have q7 : m1.1 314 7 = nI L := by rw [p1 314 7 (by omega)]; exact hL
  have q30 : m1.1 314 30 = nI K := by rw [p1 314 30 (by omega)]; exact hK
  have n4 : ∀ k : Nat, k ≤ 4 → (nI k = 4 ↔ k = 4) := by
    intro k hk
    have h5 : k = 0 ∨ k = 1 ∨ k = 2 ∨ k = 3 ∨ k = 4 := by omega
    rcases h5 with rfl | rfl | rfl | rfl | rfl <;> decide
  rcases h3 with rfl | rfl | rfl
  · replace H := f_iload_n H k191_17 rfl
    replace H := f_iconst H k191_18 (v := 1) (by decide)
    replace H := f_icmp_ne_t H k191_19 (by decide) (t := 30) (by decide)
    replace H := f_iload_n H k191_30 rfl
    replace H := f_iconst H k191_31 (v := 2) (by decide)
    replace H := f_icmp_ne_t H k191_32 (by decide) (t := 43) (by decide)
    exact main _ (fun e => absurd e (by decide)) (fun e => absurd e (by decide)) (Or.inl rfl) H
  · replace H := f_iload_n H k191_17 rfl
    replace H := f_iconst H k191_18 (v := 1) (by decide)
    replace H := f_icmp_ne_f H k191_19 rfl
    replace H := f_aload_n H k191_22 rfl
    replace H := f_gi H k191_23 (ci := 12) (f := 7) (by decide +kernel) (by decide)
    replace H := f_iconst H k191_26 (v := 4) (by decide)
    rw [q7] at H
    have Hbr := f_icmp_eq H k191_27 (t := 52) (by decide)
    clear H
    rcases Hbr with ⟨c, H⟩ | ⟨c, H⟩
    · exact bad _ m1 (fun a i h => p1 a i (by omega)) (Or.inr (Or.inl ⟨rfl, (n4 L hL4).mp c⟩)) H
    · have hL5 : L < 4 := by
        have : L ≠ 4 := fun e => c ((n4 L hL4).mpr e)
        omega
      replace H := f_iload_n H k191_30 rfl
      replace H := f_iconst H k191_31 (v := 2) (by decide)
      replace H := f_icmp_ne_t H k191_32 (by decide) (t := 43) (by decide)
      exact main _ (fun _ => hL5) (fun e => absurd e (by decide)) (Or.inr (Or.inl rfl)) H
  · replace H := f_iload_n H k191_17 rfl
    replace H := f_iconst H k191_18 (v := 1) (by decide)
    replace H := f_icmp_ne_t H k191_19 (by decide) (t := 30) (by decide)
    replace H := f_iload_n H k191_30 rfl
    replace H := f_iconst H k191_31 (v := 2) (by decide)
    replace H := f_icmp_ne_f H k191_32 rfl
    replace H := f_aload_n H k191_35 rfl
    replace H := f_gi H k191_36 (ci := 12) (f := 30) (by decide +kernel) (by decide)
    replace H := f_iconst H k191_39 (v := 4) (by decide)
    rw [q30] at H
    have Hbr := f_icmp_eq H k191_40 (t := 52) (by decide)
    clear H
    rcases Hbr with ⟨c, H⟩ | ⟨c, H⟩
    · exact bad _ m1 (fun a i h => p1 a i (by omega)) (Or.inr (Or.inr ⟨rfl, (n4 K hK4).mp c⟩)) H
    · have hK5 : K < 4 := by
        have : K ≠ 4 := fun e => c ((n4 K hK4).mpr e)
        omega
      exact main _ (fun e => absurd e (by decide)) (fun _ => hK5) (Or.inr (Or.inr rfl)) H
