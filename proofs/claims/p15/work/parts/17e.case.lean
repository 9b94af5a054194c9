/-! L3: the cases of the law -/
set_option maxRecDepth 20000 in
theorem dW_224 : decode cL_law 224 = .ok (.aload_n 1, 1) := by decide +kernel
set_option maxRecDepth 20000 in
theorem dW_225 : decode cL_law 225 = .ok (.aload_n 0, 1) := by decide +kernel
set_option maxRecDepth 20000 in
theorem dW_226 : decode cL_law 226 = .ok (.iload 4, 2) := by decide +kernel
set_option maxRecDepth 20000 in
theorem dW_228 : decode cL_law 228 = .ok (.iconst 1, 1) := by decide +kernel
set_option maxRecDepth 20000 in
theorem dW_229 : decode cL_law 229 = .ok (.iadd, 1) := by decide +kernel
set_option maxRecDepth 20000 in
theorem dW_230 : decode cL_law 230 = .ok (.iaload, 1) := by decide +kernel
set_option maxRecDepth 20000 in
theorem dW_231 : decode cL_law 231 = .ok (.aload_n 0, 1) := by decide +kernel
set_option maxRecDepth 20000 in
theorem dW_232 : decode cL_law 232 = .ok (.iload 4, 2) := by decide +kernel
set_option maxRecDepth 20000 in
theorem dW_234 : decode cL_law 234 = .ok (.iconst 2, 1) := by decide +kernel
set_option maxRecDepth 20000 in
theorem dW_235 : decode cL_law 235 = .ok (.iadd, 1) := by decide +kernel
set_option maxRecDepth 20000 in
theorem dW_236 : decode cL_law 236 = .ok (.iaload, 1) := by decide +kernel
set_option maxRecDepth 20000 in
theorem dW_237 : decode cL_law 237 = .ok (.aload_n 0, 1) := by decide +kernel
set_option maxRecDepth 20000 in
theorem dW_238 : decode cL_law 238 = .ok (.iload 4, 2) := by decide +kernel
set_option maxRecDepth 20000 in
theorem dW_240 : decode cL_law 240 = .ok (.iconst 3, 1) := by decide +kernel
set_option maxRecDepth 20000 in
theorem dW_241 : decode cL_law 241 = .ok (.iadd, 1) := by decide +kernel
set_option maxRecDepth 20000 in
theorem dW_242 : decode cL_law 242 = .ok (.iaload, 1) := by decide +kernel
set_option maxRecDepth 20000 in
theorem dW_243 : decode cL_law 243 = .ok (.aload_n 0, 1) := by decide +kernel
set_option maxRecDepth 20000 in
theorem dW_244 : decode cL_law 244 = .ok (.iload 4, 2) := by decide +kernel
set_option maxRecDepth 20000 in
theorem dW_246 : decode cL_law 246 = .ok (.iconst 4, 1) := by decide +kernel
set_option maxRecDepth 20000 in
theorem dW_247 : decode cL_law 247 = .ok (.iadd, 1) := by decide +kernel
set_option maxRecDepth 20000 in
theorem dW_248 : decode cL_law 248 = .ok (.iaload, 1) := by decide +kernel
set_option maxRecDepth 20000 in
theorem dW_249 : decode cL_law 249 = .ok (.aload_n 0, 1) := by decide +kernel
set_option maxRecDepth 20000 in
theorem dW_250 : decode cL_law 250 = .ok (.iload 4, 2) := by decide +kernel
set_option maxRecDepth 20000 in
theorem dW_252 : decode cL_law 252 = .ok (.iconst 5, 1) := by decide +kernel
set_option maxRecDepth 20000 in
theorem dW_253 : decode cL_law 253 = .ok (.iadd, 1) := by decide +kernel
set_option maxRecDepth 20000 in
theorem dW_254 : decode cL_law 254 = .ok (.iaload, 1) := by decide +kernel
set_option maxRecDepth 20000 in
theorem dW_255 : decode cL_law 255 = .ok (.invokevirtual 19, 3) := by decide +kernel
set_option maxRecDepth 20000 in
theorem dW_258 : decode cL_law 258 = .ok (.pop, 1) := by decide +kernel
set_option maxRecDepth 20000 in
theorem dW_259 : decode cL_law 259 = .ok (.aload_n 2, 1) := by decide +kernel
set_option maxRecDepth 20000 in
theorem dW_260 : decode cL_law 260 = .ok (.aload_n 0, 1) := by decide +kernel
set_option maxRecDepth 20000 in
theorem dW_261 : decode cL_law 261 = .ok (.iload 4, 2) := by decide +kernel
set_option maxRecDepth 20000 in
theorem dW_263 : decode cL_law 263 = .ok (.iconst 1, 1) := by decide +kernel
set_option maxRecDepth 20000 in
theorem dW_264 : decode cL_law 264 = .ok (.iadd, 1) := by decide +kernel
set_option maxRecDepth 20000 in
theorem dW_265 : decode cL_law 265 = .ok (.iaload, 1) := by decide +kernel
set_option maxRecDepth 20000 in
theorem dW_266 : decode cL_law 266 = .ok (.aload_n 0, 1) := by decide +kernel
set_option maxRecDepth 20000 in
theorem dW_267 : decode cL_law 267 = .ok (.iload 4, 2) := by decide +kernel
set_option maxRecDepth 20000 in
theorem dW_269 : decode cL_law 269 = .ok (.iconst 2, 1) := by decide +kernel
set_option maxRecDepth 20000 in
theorem dW_270 : decode cL_law 270 = .ok (.iadd, 1) := by decide +kernel
set_option maxRecDepth 20000 in
theorem dW_271 : decode cL_law 271 = .ok (.iaload, 1) := by decide +kernel
set_option maxRecDepth 20000 in
theorem dW_272 : decode cL_law 272 = .ok (.aload_n 0, 1) := by decide +kernel
set_option maxRecDepth 20000 in
theorem dW_273 : decode cL_law 273 = .ok (.iload 4, 2) := by decide +kernel
set_option maxRecDepth 20000 in
theorem dW_275 : decode cL_law 275 = .ok (.iconst 3, 1) := by decide +kernel
set_option maxRecDepth 20000 in
theorem dW_276 : decode cL_law 276 = .ok (.iadd, 1) := by decide +kernel
set_option maxRecDepth 20000 in
theorem dW_277 : decode cL_law 277 = .ok (.iaload, 1) := by decide +kernel
set_option maxRecDepth 20000 in
theorem dW_278 : decode cL_law 278 = .ok (.aload_n 0, 1) := by decide +kernel
set_option maxRecDepth 20000 in
theorem dW_279 : decode cL_law 279 = .ok (.iload 4, 2) := by decide +kernel
set_option maxRecDepth 20000 in
theorem dW_281 : decode cL_law 281 = .ok (.iconst 4, 1) := by decide +kernel
set_option maxRecDepth 20000 in
theorem dW_282 : decode cL_law 282 = .ok (.iadd, 1) := by decide +kernel
set_option maxRecDepth 20000 in
theorem dW_283 : decode cL_law 283 = .ok (.iaload, 1) := by decide +kernel
set_option maxRecDepth 20000 in
theorem dW_284 : decode cL_law 284 = .ok (.aload_n 0, 1) := by decide +kernel
set_option maxRecDepth 20000 in
theorem dW_285 : decode cL_law 285 = .ok (.iload 4, 2) := by decide +kernel
set_option maxRecDepth 20000 in
theorem dW_287 : decode cL_law 287 = .ok (.iconst 5, 1) := by decide +kernel
set_option maxRecDepth 20000 in
theorem dW_288 : decode cL_law 288 = .ok (.iadd, 1) := by decide +kernel
set_option maxRecDepth 20000 in
theorem dW_289 : decode cL_law 289 = .ok (.iaload, 1) := by decide +kernel
set_option maxRecDepth 20000 in
theorem dW_290 : decode cL_law 290 = .ok (.invokevirtual 23, 3) := by decide +kernel
set_option maxRecDepth 20000 in
theorem dW_293 : decode cL_law 293 = .ok (.pop, 1) := by decide +kernel
set_option maxRecDepth 20000 in
theorem dW_294 : decode cL_law 294 = .ok (.goto 1307, 3) := by decide +kernel
set_option maxRecDepth 20000 in
theorem dW_297 : decode cL_law 297 = .ok (.aload_n 1, 1) := by decide +kernel
set_option maxRecDepth 20000 in
theorem dW_298 : decode cL_law 298 = .ok (.aload_n 0, 1) := by decide +kernel
set_option maxRecDepth 20000 in
theorem dW_299 : decode cL_law 299 = .ok (.iload 4, 2) := by decide +kernel
set_option maxRecDepth 20000 in
theorem dW_301 : decode cL_law 301 = .ok (.iconst 1, 1) := by decide +kernel
set_option maxRecDepth 20000 in
theorem dW_302 : decode cL_law 302 = .ok (.iadd, 1) := by decide +kernel
set_option maxRecDepth 20000 in
theorem dW_303 : decode cL_law 303 = .ok (.iaload, 1) := by decide +kernel
set_option maxRecDepth 20000 in
theorem dW_304 : decode cL_law 304 = .ok (.invokevirtual 24, 3) := by decide +kernel
set_option maxRecDepth 20000 in
theorem dW_307 : decode cL_law 307 = .ok (.pop, 1) := by decide +kernel
set_option maxRecDepth 20000 in
theorem dW_308 : decode cL_law 308 = .ok (.aload_n 2, 1) := by decide +kernel
set_option maxRecDepth 20000 in
theorem dW_309 : decode cL_law 309 = .ok (.aload_n 0, 1) := by decide +kernel
set_option maxRecDepth 20000 in
theorem dW_310 : decode cL_law 310 = .ok (.iload 4, 2) := by decide +kernel
set_option maxRecDepth 20000 in
theorem dW_312 : decode cL_law 312 = .ok (.iconst 1, 1) := by decide +kernel
set_option maxRecDepth 20000 in
theorem dW_313 : decode cL_law 313 = .ok (.iadd, 1) := by decide +kernel
set_option maxRecDepth 20000 in
theorem dW_314 : decode cL_law 314 = .ok (.iaload, 1) := by decide +kernel
set_option maxRecDepth 20000 in
theorem dW_315 : decode cL_law 315 = .ok (.invokevirtual 28, 3) := by decide +kernel
set_option maxRecDepth 20000 in
theorem dW_318 : decode cL_law 318 = .ok (.pop, 1) := by decide +kernel
set_option maxRecDepth 20000 in
theorem dW_319 : decode cL_law 319 = .ok (.goto 1282, 3) := by decide +kernel
set_option maxRecDepth 20000 in
theorem dW_322 : decode cL_law 322 = .ok (.aload_n 1, 1) := by decide +kernel
set_option maxRecDepth 20000 in
theorem dW_323 : decode cL_law 323 = .ok (.aload_n 0, 1) := by decide +kernel
set_option maxRecDepth 20000 in
theorem dW_324 : decode cL_law 324 = .ok (.iload 4, 2) := by decide +kernel
set_option maxRecDepth 20000 in
theorem dW_326 : decode cL_law 326 = .ok (.iconst 1, 1) := by decide +kernel
set_option maxRecDepth 20000 in
theorem dW_327 : decode cL_law 327 = .ok (.iadd, 1) := by decide +kernel
set_option maxRecDepth 20000 in
theorem dW_328 : decode cL_law 328 = .ok (.iaload, 1) := by decide +kernel
set_option maxRecDepth 20000 in
theorem dW_329 : decode cL_law 329 = .ok (.invokevirtual 29, 3) := by decide +kernel
set_option maxRecDepth 20000 in
theorem dW_332 : decode cL_law 332 = .ok (.pop, 1) := by decide +kernel
set_option maxRecDepth 20000 in
theorem dW_333 : decode cL_law 333 = .ok (.aload_n 2, 1) := by decide +kernel
set_option maxRecDepth 20000 in
theorem dW_334 : decode cL_law 334 = .ok (.aload_n 0, 1) := by decide +kernel
set_option maxRecDepth 20000 in
theorem dW_335 : decode cL_law 335 = .ok (.iload 4, 2) := by decide +kernel
set_option maxRecDepth 20000 in
theorem dW_337 : decode cL_law 337 = .ok (.iconst 1, 1) := by decide +kernel
set_option maxRecDepth 20000 in
theorem dW_338 : decode cL_law 338 = .ok (.iadd, 1) := by decide +kernel
set_option maxRecDepth 20000 in
theorem dW_339 : decode cL_law 339 = .ok (.iaload, 1) := by decide +kernel
set_option maxRecDepth 20000 in
theorem dW_340 : decode cL_law 340 = .ok (.invokevirtual 33, 3) := by decide +kernel
set_option maxRecDepth 20000 in
theorem dW_343 : decode cL_law 343 = .ok (.pop, 1) := by decide +kernel
set_option maxRecDepth 20000 in
theorem dW_344 : decode cL_law 344 = .ok (.goto 1257, 3) := by decide +kernel
set_option maxRecDepth 20000 in
theorem dW_347 : decode cL_law 347 = .ok (.aload_n 1, 1) := by decide +kernel
set_option maxRecDepth 20000 in
theorem dW_348 : decode cL_law 348 = .ok (.aload_n 0, 1) := by decide +kernel
set_option maxRecDepth 20000 in
theorem dW_349 : decode cL_law 349 = .ok (.iload 4, 2) := by decide +kernel
set_option maxRecDepth 20000 in
theorem dW_351 : decode cL_law 351 = .ok (.iconst 1, 1) := by decide +kernel
set_option maxRecDepth 20000 in
theorem dW_352 : decode cL_law 352 = .ok (.iadd, 1) := by decide +kernel
set_option maxRecDepth 20000 in
theorem dW_353 : decode cL_law 353 = .ok (.iaload, 1) := by decide +kernel
set_option maxRecDepth 20000 in
theorem dW_354 : decode cL_law 354 = .ok (.invokevirtual 34, 3) := by decide +kernel
set_option maxRecDepth 20000 in
theorem dW_357 : decode cL_law 357 = .ok (.pop, 1) := by decide +kernel
set_option maxRecDepth 20000 in
theorem dW_358 : decode cL_law 358 = .ok (.aload_n 2, 1) := by decide +kernel
set_option maxRecDepth 20000 in
theorem dW_359 : decode cL_law 359 = .ok (.aload_n 0, 1) := by decide +kernel
set_option maxRecDepth 20000 in
theorem dW_360 : decode cL_law 360 = .ok (.iload 4, 2) := by decide +kernel
set_option maxRecDepth 20000 in
theorem dW_362 : decode cL_law 362 = .ok (.iconst 1, 1) := by decide +kernel
set_option maxRecDepth 20000 in
theorem dW_363 : decode cL_law 363 = .ok (.iadd, 1) := by decide +kernel
set_option maxRecDepth 20000 in
theorem dW_364 : decode cL_law 364 = .ok (.iaload, 1) := by decide +kernel
set_option maxRecDepth 20000 in
theorem dW_365 : decode cL_law 365 = .ok (.invokevirtual 37, 3) := by decide +kernel
set_option maxRecDepth 20000 in
theorem dW_368 : decode cL_law 368 = .ok (.pop, 1) := by decide +kernel
set_option maxRecDepth 20000 in
theorem dW_369 : decode cL_law 369 = .ok (.goto 1232, 3) := by decide +kernel
set_option maxRecDepth 20000 in
theorem dW_372 : decode cL_law 372 = .ok (.aload_n 1, 1) := by decide +kernel
set_option maxRecDepth 20000 in
theorem dW_373 : decode cL_law 373 = .ok (.aload_n 0, 1) := by decide +kernel
set_option maxRecDepth 20000 in
theorem dW_374 : decode cL_law 374 = .ok (.iload 4, 2) := by decide +kernel
set_option maxRecDepth 20000 in
theorem dW_376 : decode cL_law 376 = .ok (.iconst 1, 1) := by decide +kernel
set_option maxRecDepth 20000 in
theorem dW_377 : decode cL_law 377 = .ok (.iadd, 1) := by decide +kernel
set_option maxRecDepth 20000 in
theorem dW_378 : decode cL_law 378 = .ok (.iaload, 1) := by decide +kernel
set_option maxRecDepth 20000 in
theorem dW_379 : decode cL_law 379 = .ok (.aload_n 0, 1) := by decide +kernel
set_option maxRecDepth 20000 in
theorem dW_380 : decode cL_law 380 = .ok (.iload 4, 2) := by decide +kernel
set_option maxRecDepth 20000 in
theorem dW_382 : decode cL_law 382 = .ok (.iconst 2, 1) := by decide +kernel
set_option maxRecDepth 20000 in
theorem dW_383 : decode cL_law 383 = .ok (.iadd, 1) := by decide +kernel
set_option maxRecDepth 20000 in
theorem dW_384 : decode cL_law 384 = .ok (.iaload, 1) := by decide +kernel
set_option maxRecDepth 20000 in
theorem dW_385 : decode cL_law 385 = .ok (.invokevirtual 38, 3) := by decide +kernel
set_option maxRecDepth 20000 in
theorem dW_388 : decode cL_law 388 = .ok (.pop, 1) := by decide +kernel
set_option maxRecDepth 20000 in
theorem dW_389 : decode cL_law 389 = .ok (.aload_n 2, 1) := by decide +kernel
set_option maxRecDepth 20000 in
theorem dW_390 : decode cL_law 390 = .ok (.aload_n 0, 1) := by decide +kernel
set_option maxRecDepth 20000 in
theorem dW_391 : decode cL_law 391 = .ok (.iload 4, 2) := by decide +kernel
set_option maxRecDepth 20000 in
theorem dW_393 : decode cL_law 393 = .ok (.iconst 1, 1) := by decide +kernel
set_option maxRecDepth 20000 in
theorem dW_394 : decode cL_law 394 = .ok (.iadd, 1) := by decide +kernel
set_option maxRecDepth 20000 in
theorem dW_395 : decode cL_law 395 = .ok (.iaload, 1) := by decide +kernel
set_option maxRecDepth 20000 in
theorem dW_396 : decode cL_law 396 = .ok (.aload_n 0, 1) := by decide +kernel
set_option maxRecDepth 20000 in
theorem dW_397 : decode cL_law 397 = .ok (.iload 4, 2) := by decide +kernel
set_option maxRecDepth 20000 in
theorem dW_399 : decode cL_law 399 = .ok (.iconst 2, 1) := by decide +kernel
set_option maxRecDepth 20000 in
theorem dW_400 : decode cL_law 400 = .ok (.iadd, 1) := by decide +kernel
set_option maxRecDepth 20000 in
theorem dW_401 : decode cL_law 401 = .ok (.iaload, 1) := by decide +kernel
set_option maxRecDepth 20000 in
theorem dW_402 : decode cL_law 402 = .ok (.invokevirtual 41, 3) := by decide +kernel
set_option maxRecDepth 20000 in
theorem dW_405 : decode cL_law 405 = .ok (.pop, 1) := by decide +kernel
set_option maxRecDepth 20000 in
theorem dW_406 : decode cL_law 406 = .ok (.goto 1195, 3) := by decide +kernel
set_option maxRecDepth 20000 in
theorem dW_409 : decode cL_law 409 = .ok (.aload_n 1, 1) := by decide +kernel
set_option maxRecDepth 20000 in
theorem dW_410 : decode cL_law 410 = .ok (.aload_n 0, 1) := by decide +kernel
set_option maxRecDepth 20000 in
theorem dW_411 : decode cL_law 411 = .ok (.iload 4, 2) := by decide +kernel
set_option maxRecDepth 20000 in
theorem dW_413 : decode cL_law 413 = .ok (.iconst 1, 1) := by decide +kernel
set_option maxRecDepth 20000 in
theorem dW_414 : decode cL_law 414 = .ok (.iadd, 1) := by decide +kernel
set_option maxRecDepth 20000 in
theorem dW_415 : decode cL_law 415 = .ok (.iaload, 1) := by decide +kernel
set_option maxRecDepth 20000 in
theorem dW_416 : decode cL_law 416 = .ok (.aload_n 0, 1) := by decide +kernel
set_option maxRecDepth 20000 in
theorem dW_417 : decode cL_law 417 = .ok (.iload 4, 2) := by decide +kernel
set_option maxRecDepth 20000 in
theorem dW_419 : decode cL_law 419 = .ok (.iconst 2, 1) := by decide +kernel
set_option maxRecDepth 20000 in
theorem dW_420 : decode cL_law 420 = .ok (.iadd, 1) := by decide +kernel
set_option maxRecDepth 20000 in
theorem dW_421 : decode cL_law 421 = .ok (.iaload, 1) := by decide +kernel
set_option maxRecDepth 20000 in
theorem dW_422 : decode cL_law 422 = .ok (.invokevirtual 42, 3) := by decide +kernel
set_option maxRecDepth 20000 in
theorem dW_425 : decode cL_law 425 = .ok (.pop, 1) := by decide +kernel
set_option maxRecDepth 20000 in
theorem dW_426 : decode cL_law 426 = .ok (.aload_n 2, 1) := by decide +kernel
set_option maxRecDepth 20000 in
theorem dW_427 : decode cL_law 427 = .ok (.aload_n 0, 1) := by decide +kernel
set_option maxRecDepth 20000 in
theorem dW_428 : decode cL_law 428 = .ok (.iload 4, 2) := by decide +kernel
set_option maxRecDepth 20000 in
theorem dW_430 : decode cL_law 430 = .ok (.iconst 1, 1) := by decide +kernel
set_option maxRecDepth 20000 in
theorem dW_431 : decode cL_law 431 = .ok (.iadd, 1) := by decide +kernel
set_option maxRecDepth 20000 in
theorem dW_432 : decode cL_law 432 = .ok (.iaload, 1) := by decide +kernel
set_option maxRecDepth 20000 in
theorem dW_433 : decode cL_law 433 = .ok (.aload_n 0, 1) := by decide +kernel
set_option maxRecDepth 20000 in
theorem dW_434 : decode cL_law 434 = .ok (.iload 4, 2) := by decide +kernel
set_option maxRecDepth 20000 in
theorem dW_436 : decode cL_law 436 = .ok (.iconst 2, 1) := by decide +kernel
set_option maxRecDepth 20000 in
theorem dW_437 : decode cL_law 437 = .ok (.iadd, 1) := by decide +kernel
set_option maxRecDepth 20000 in
theorem dW_438 : decode cL_law 438 = .ok (.iaload, 1) := by decide +kernel
set_option maxRecDepth 20000 in
theorem dW_439 : decode cL_law 439 = .ok (.invokevirtual 45, 3) := by decide +kernel
set_option maxRecDepth 20000 in
theorem dW_442 : decode cL_law 442 = .ok (.pop, 1) := by decide +kernel
set_option maxRecDepth 20000 in
theorem dW_443 : decode cL_law 443 = .ok (.goto 1158, 3) := by decide +kernel
set_option maxRecDepth 20000 in
theorem dW_486 : decode cL_law 486 = .ok (.aload_n 1, 1) := by decide +kernel
set_option maxRecDepth 20000 in
theorem dW_487 : decode cL_law 487 = .ok (.aload_n 0, 1) := by decide +kernel
set_option maxRecDepth 20000 in
theorem dW_488 : decode cL_law 488 = .ok (.iload 4, 2) := by decide +kernel
set_option maxRecDepth 20000 in
theorem dW_490 : decode cL_law 490 = .ok (.iconst 1, 1) := by decide +kernel
set_option maxRecDepth 20000 in
theorem dW_491 : decode cL_law 491 = .ok (.iadd, 1) := by decide +kernel
set_option maxRecDepth 20000 in
theorem dW_492 : decode cL_law 492 = .ok (.iaload, 1) := by decide +kernel
set_option maxRecDepth 20000 in
theorem dW_493 : decode cL_law 493 = .ok (.invokevirtual 52, 3) := by decide +kernel
set_option maxRecDepth 20000 in
theorem dW_496 : decode cL_law 496 = .ok (.pop, 1) := by decide +kernel
set_option maxRecDepth 20000 in
theorem dW_497 : decode cL_law 497 = .ok (.aload_n 2, 1) := by decide +kernel
set_option maxRecDepth 20000 in
theorem dW_498 : decode cL_law 498 = .ok (.aload_n 0, 1) := by decide +kernel
set_option maxRecDepth 20000 in
theorem dW_499 : decode cL_law 499 = .ok (.iload 4, 2) := by decide +kernel
set_option maxRecDepth 20000 in
theorem dW_501 : decode cL_law 501 = .ok (.iconst 1, 1) := by decide +kernel
set_option maxRecDepth 20000 in
theorem dW_502 : decode cL_law 502 = .ok (.iadd, 1) := by decide +kernel
set_option maxRecDepth 20000 in
theorem dW_503 : decode cL_law 503 = .ok (.iaload, 1) := by decide +kernel
set_option maxRecDepth 20000 in
theorem dW_504 : decode cL_law 504 = .ok (.invokevirtual 55, 3) := by decide +kernel
set_option maxRecDepth 20000 in
theorem dW_507 : decode cL_law 507 = .ok (.pop, 1) := by decide +kernel
set_option maxRecDepth 20000 in
theorem dW_508 : decode cL_law 508 = .ok (.goto 1093, 3) := by decide +kernel
set_option maxRecDepth 20000 in
theorem dW_511 : decode cL_law 511 = .ok (.aload_n 1, 1) := by decide +kernel
set_option maxRecDepth 20000 in
theorem dW_512 : decode cL_law 512 = .ok (.aload_n 0, 1) := by decide +kernel
set_option maxRecDepth 20000 in
theorem dW_513 : decode cL_law 513 = .ok (.iload 4, 2) := by decide +kernel
set_option maxRecDepth 20000 in
theorem dW_515 : decode cL_law 515 = .ok (.iconst 1, 1) := by decide +kernel
set_option maxRecDepth 20000 in
theorem dW_516 : decode cL_law 516 = .ok (.iadd, 1) := by decide +kernel
set_option maxRecDepth 20000 in
theorem dW_517 : decode cL_law 517 = .ok (.iaload, 1) := by decide +kernel
set_option maxRecDepth 20000 in
theorem dW_518 : decode cL_law 518 = .ok (.invokevirtual 56, 3) := by decide +kernel
set_option maxRecDepth 20000 in
theorem dW_521 : decode cL_law 521 = .ok (.pop, 1) := by decide +kernel
set_option maxRecDepth 20000 in
theorem dW_522 : decode cL_law 522 = .ok (.aload_n 2, 1) := by decide +kernel
set_option maxRecDepth 20000 in
theorem dW_523 : decode cL_law 523 = .ok (.aload_n 0, 1) := by decide +kernel
set_option maxRecDepth 20000 in
theorem dW_524 : decode cL_law 524 = .ok (.iload 4, 2) := by decide +kernel
set_option maxRecDepth 20000 in
theorem dW_526 : decode cL_law 526 = .ok (.iconst 1, 1) := by decide +kernel
set_option maxRecDepth 20000 in
theorem dW_527 : decode cL_law 527 = .ok (.iadd, 1) := by decide +kernel
set_option maxRecDepth 20000 in
theorem dW_528 : decode cL_law 528 = .ok (.iaload, 1) := by decide +kernel
set_option maxRecDepth 20000 in
theorem dW_529 : decode cL_law 529 = .ok (.invokevirtual 59, 3) := by decide +kernel
set_option maxRecDepth 20000 in
theorem dW_532 : decode cL_law 532 = .ok (.pop, 1) := by decide +kernel
set_option maxRecDepth 20000 in
theorem dW_533 : decode cL_law 533 = .ok (.goto 1068, 3) := by decide +kernel
set_option maxRecDepth 20000 in
theorem dW_536 : decode cL_law 536 = .ok (.aload_n 1, 1) := by decide +kernel
set_option maxRecDepth 20000 in
theorem dW_537 : decode cL_law 537 = .ok (.invokevirtual 60, 3) := by decide +kernel
set_option maxRecDepth 20000 in
theorem dW_540 : decode cL_law 540 = .ok (.pop, 1) := by decide +kernel
set_option maxRecDepth 20000 in
theorem dW_541 : decode cL_law 541 = .ok (.aload_n 2, 1) := by decide +kernel
set_option maxRecDepth 20000 in
theorem dW_542 : decode cL_law 542 = .ok (.invokevirtual 64, 3) := by decide +kernel
set_option maxRecDepth 20000 in
theorem dW_545 : decode cL_law 545 = .ok (.pop, 1) := by decide +kernel
set_option maxRecDepth 20000 in
theorem dW_546 : decode cL_law 546 = .ok (.goto 1055, 3) := by decide +kernel
set_option maxRecDepth 20000 in
theorem dW_549 : decode cL_law 549 = .ok (.aload_n 1, 1) := by decide +kernel
set_option maxRecDepth 20000 in
theorem dW_550 : decode cL_law 550 = .ok (.aload_n 0, 1) := by decide +kernel
set_option maxRecDepth 20000 in
theorem dW_551 : decode cL_law 551 = .ok (.iload 4, 2) := by decide +kernel
set_option maxRecDepth 20000 in
theorem dW_553 : decode cL_law 553 = .ok (.iconst 1, 1) := by decide +kernel
set_option maxRecDepth 20000 in
theorem dW_554 : decode cL_law 554 = .ok (.iadd, 1) := by decide +kernel
set_option maxRecDepth 20000 in
theorem dW_555 : decode cL_law 555 = .ok (.iaload, 1) := by decide +kernel
set_option maxRecDepth 20000 in
theorem dW_556 : decode cL_law 556 = .ok (.invokevirtual 65, 3) := by decide +kernel
set_option maxRecDepth 20000 in
theorem dW_559 : decode cL_law 559 = .ok (.pop, 1) := by decide +kernel
set_option maxRecDepth 20000 in
theorem dW_560 : decode cL_law 560 = .ok (.aload_n 2, 1) := by decide +kernel
set_option maxRecDepth 20000 in
theorem dW_561 : decode cL_law 561 = .ok (.aload_n 0, 1) := by decide +kernel
set_option maxRecDepth 20000 in
theorem dW_562 : decode cL_law 562 = .ok (.iload 4, 2) := by decide +kernel
set_option maxRecDepth 20000 in
theorem dW_564 : decode cL_law 564 = .ok (.iconst 1, 1) := by decide +kernel
set_option maxRecDepth 20000 in
theorem dW_565 : decode cL_law 565 = .ok (.iadd, 1) := by decide +kernel
set_option maxRecDepth 20000 in
theorem dW_566 : decode cL_law 566 = .ok (.iaload, 1) := by decide +kernel
set_option maxRecDepth 20000 in
theorem dW_567 : decode cL_law 567 = .ok (.invokevirtual 68, 3) := by decide +kernel
set_option maxRecDepth 20000 in
theorem dW_570 : decode cL_law 570 = .ok (.pop, 1) := by decide +kernel
set_option maxRecDepth 20000 in
theorem dW_571 : decode cL_law 571 = .ok (.goto 1030, 3) := by decide +kernel
set_option maxRecDepth 20000 in
theorem dW_574 : decode cL_law 574 = .ok (.aload_n 1, 1) := by decide +kernel
set_option maxRecDepth 20000 in
theorem dW_575 : decode cL_law 575 = .ok (.aload_n 0, 1) := by decide +kernel
set_option maxRecDepth 20000 in
theorem dW_576 : decode cL_law 576 = .ok (.iload 4, 2) := by decide +kernel
set_option maxRecDepth 20000 in
theorem dW_578 : decode cL_law 578 = .ok (.iconst 1, 1) := by decide +kernel
set_option maxRecDepth 20000 in
theorem dW_579 : decode cL_law 579 = .ok (.iadd, 1) := by decide +kernel
set_option maxRecDepth 20000 in
theorem dW_580 : decode cL_law 580 = .ok (.iaload, 1) := by decide +kernel
set_option maxRecDepth 20000 in
theorem dW_581 : decode cL_law 581 = .ok (.invokevirtual 69, 3) := by decide +kernel
set_option maxRecDepth 20000 in
theorem dW_584 : decode cL_law 584 = .ok (.pop, 1) := by decide +kernel
set_option maxRecDepth 20000 in
theorem dW_585 : decode cL_law 585 = .ok (.aload_n 2, 1) := by decide +kernel
set_option maxRecDepth 20000 in
theorem dW_586 : decode cL_law 586 = .ok (.aload_n 0, 1) := by decide +kernel
set_option maxRecDepth 20000 in
theorem dW_587 : decode cL_law 587 = .ok (.iload 4, 2) := by decide +kernel
set_option maxRecDepth 20000 in
theorem dW_589 : decode cL_law 589 = .ok (.iconst 1, 1) := by decide +kernel
set_option maxRecDepth 20000 in
theorem dW_590 : decode cL_law 590 = .ok (.iadd, 1) := by decide +kernel
set_option maxRecDepth 20000 in
theorem dW_591 : decode cL_law 591 = .ok (.iaload, 1) := by decide +kernel
set_option maxRecDepth 20000 in
theorem dW_592 : decode cL_law 592 = .ok (.invokevirtual 72, 3) := by decide +kernel
set_option maxRecDepth 20000 in
theorem dW_595 : decode cL_law 595 = .ok (.pop, 1) := by decide +kernel
set_option maxRecDepth 20000 in
theorem dW_596 : decode cL_law 596 = .ok (.goto 1005, 3) := by decide +kernel
set_option maxRecDepth 20000 in
theorem dW_599 : decode cL_law 599 = .ok (.aload_n 1, 1) := by decide +kernel
set_option maxRecDepth 20000 in
theorem dW_600 : decode cL_law 600 = .ok (.aload_n 0, 1) := by decide +kernel
set_option maxRecDepth 20000 in
theorem dW_601 : decode cL_law 601 = .ok (.iload 4, 2) := by decide +kernel
set_option maxRecDepth 20000 in
theorem dW_603 : decode cL_law 603 = .ok (.iconst 1, 1) := by decide +kernel
set_option maxRecDepth 20000 in
theorem dW_604 : decode cL_law 604 = .ok (.iadd, 1) := by decide +kernel
set_option maxRecDepth 20000 in
theorem dW_605 : decode cL_law 605 = .ok (.iaload, 1) := by decide +kernel
set_option maxRecDepth 20000 in
theorem dW_606 : decode cL_law 606 = .ok (.aload_n 0, 1) := by decide +kernel
set_option maxRecDepth 20000 in
theorem dW_607 : decode cL_law 607 = .ok (.iload 4, 2) := by decide +kernel
set_option maxRecDepth 20000 in
theorem dW_609 : decode cL_law 609 = .ok (.iconst 2, 1) := by decide +kernel
set_option maxRecDepth 20000 in
theorem dW_610 : decode cL_law 610 = .ok (.iadd, 1) := by decide +kernel
set_option maxRecDepth 20000 in
theorem dW_611 : decode cL_law 611 = .ok (.iaload, 1) := by decide +kernel
set_option maxRecDepth 20000 in
theorem dW_612 : decode cL_law 612 = .ok (.invokevirtual 73, 3) := by decide +kernel
set_option maxRecDepth 20000 in
theorem dW_615 : decode cL_law 615 = .ok (.pop, 1) := by decide +kernel
set_option maxRecDepth 20000 in
theorem dW_616 : decode cL_law 616 = .ok (.aload_n 2, 1) := by decide +kernel
set_option maxRecDepth 20000 in
theorem dW_617 : decode cL_law 617 = .ok (.aload_n 0, 1) := by decide +kernel
set_option maxRecDepth 20000 in
theorem dW_618 : decode cL_law 618 = .ok (.iload 4, 2) := by decide +kernel
set_option maxRecDepth 20000 in
theorem dW_620 : decode cL_law 620 = .ok (.iconst 1, 1) := by decide +kernel
set_option maxRecDepth 20000 in
theorem dW_621 : decode cL_law 621 = .ok (.iadd, 1) := by decide +kernel
set_option maxRecDepth 20000 in
theorem dW_622 : decode cL_law 622 = .ok (.iaload, 1) := by decide +kernel
set_option maxRecDepth 20000 in
theorem dW_623 : decode cL_law 623 = .ok (.aload_n 0, 1) := by decide +kernel
set_option maxRecDepth 20000 in
theorem dW_624 : decode cL_law 624 = .ok (.iload 4, 2) := by decide +kernel
set_option maxRecDepth 20000 in
theorem dW_626 : decode cL_law 626 = .ok (.iconst 2, 1) := by decide +kernel
set_option maxRecDepth 20000 in
theorem dW_627 : decode cL_law 627 = .ok (.iadd, 1) := by decide +kernel
set_option maxRecDepth 20000 in
theorem dW_628 : decode cL_law 628 = .ok (.iaload, 1) := by decide +kernel
set_option maxRecDepth 20000 in
theorem dW_629 : decode cL_law 629 = .ok (.invokevirtual 76, 3) := by decide +kernel
set_option maxRecDepth 20000 in
theorem dW_632 : decode cL_law 632 = .ok (.pop, 1) := by decide +kernel
set_option maxRecDepth 20000 in
theorem dW_633 : decode cL_law 633 = .ok (.goto 968, 3) := by decide +kernel
set_option maxRecDepth 20000 in
theorem dW_636 : decode cL_law 636 = .ok (.aload_n 1, 1) := by decide +kernel
set_option maxRecDepth 20000 in
theorem dW_637 : decode cL_law 637 = .ok (.aload_n 0, 1) := by decide +kernel
set_option maxRecDepth 20000 in
theorem dW_638 : decode cL_law 638 = .ok (.iload 4, 2) := by decide +kernel
set_option maxRecDepth 20000 in
theorem dW_640 : decode cL_law 640 = .ok (.iconst 1, 1) := by decide +kernel
set_option maxRecDepth 20000 in
theorem dW_641 : decode cL_law 641 = .ok (.iadd, 1) := by decide +kernel
set_option maxRecDepth 20000 in
theorem dW_642 : decode cL_law 642 = .ok (.iaload, 1) := by decide +kernel
set_option maxRecDepth 20000 in
theorem dW_643 : decode cL_law 643 = .ok (.invokevirtual 77, 3) := by decide +kernel
set_option maxRecDepth 20000 in
theorem dW_646 : decode cL_law 646 = .ok (.aload_n 2, 1) := by decide +kernel
set_option maxRecDepth 20000 in
theorem dW_647 : decode cL_law 647 = .ok (.aload_n 0, 1) := by decide +kernel
set_option maxRecDepth 20000 in
theorem dW_648 : decode cL_law 648 = .ok (.iload 4, 2) := by decide +kernel
set_option maxRecDepth 20000 in
theorem dW_650 : decode cL_law 650 = .ok (.iconst 1, 1) := by decide +kernel
set_option maxRecDepth 20000 in
theorem dW_651 : decode cL_law 651 = .ok (.iadd, 1) := by decide +kernel
set_option maxRecDepth 20000 in
theorem dW_652 : decode cL_law 652 = .ok (.iaload, 1) := by decide +kernel
set_option maxRecDepth 20000 in
theorem dW_653 : decode cL_law 653 = .ok (.invokevirtual 80, 3) := by decide +kernel
set_option maxRecDepth 20000 in
theorem dW_656 : decode cL_law 656 = .ok (.if_icmp .eq 945, 3) := by decide +kernel
set_option maxRecDepth 20000 in
theorem dW_661 : decode cL_law 661 = .ok (.aload_n 1, 1) := by decide +kernel
set_option maxRecDepth 20000 in
theorem dW_662 : decode cL_law 662 = .ok (.aload_n 0, 1) := by decide +kernel
set_option maxRecDepth 20000 in
theorem dW_663 : decode cL_law 663 = .ok (.iload 4, 2) := by decide +kernel
set_option maxRecDepth 20000 in
theorem dW_665 : decode cL_law 665 = .ok (.iconst 1, 1) := by decide +kernel
set_option maxRecDepth 20000 in
theorem dW_666 : decode cL_law 666 = .ok (.iadd, 1) := by decide +kernel
set_option maxRecDepth 20000 in
theorem dW_667 : decode cL_law 667 = .ok (.iaload, 1) := by decide +kernel
set_option maxRecDepth 20000 in
theorem dW_668 : decode cL_law 668 = .ok (.invokevirtual 81, 3) := by decide +kernel
set_option maxRecDepth 20000 in
theorem dW_671 : decode cL_law 671 = .ok (.pop, 1) := by decide +kernel
set_option maxRecDepth 20000 in
theorem dW_672 : decode cL_law 672 = .ok (.aload_n 2, 1) := by decide +kernel
set_option maxRecDepth 20000 in
theorem dW_673 : decode cL_law 673 = .ok (.aload_n 0, 1) := by decide +kernel
set_option maxRecDepth 20000 in
theorem dW_674 : decode cL_law 674 = .ok (.iload 4, 2) := by decide +kernel
set_option maxRecDepth 20000 in
theorem dW_676 : decode cL_law 676 = .ok (.iconst 1, 1) := by decide +kernel
set_option maxRecDepth 20000 in
theorem dW_677 : decode cL_law 677 = .ok (.iadd, 1) := by decide +kernel
set_option maxRecDepth 20000 in
theorem dW_678 : decode cL_law 678 = .ok (.iaload, 1) := by decide +kernel
set_option maxRecDepth 20000 in
theorem dW_679 : decode cL_law 679 = .ok (.invokevirtual 84, 3) := by decide +kernel
set_option maxRecDepth 20000 in
theorem dW_682 : decode cL_law 682 = .ok (.pop, 1) := by decide +kernel
set_option maxRecDepth 20000 in
theorem dW_683 : decode cL_law 683 = .ok (.goto 918, 3) := by decide +kernel
set_option maxRecDepth 20000 in
theorem dW_686 : decode cL_law 686 = .ok (.aload_n 1, 1) := by decide +kernel
set_option maxRecDepth 20000 in
theorem dW_687 : decode cL_law 687 = .ok (.aload_n 0, 1) := by decide +kernel
set_option maxRecDepth 20000 in
theorem dW_688 : decode cL_law 688 = .ok (.iload 4, 2) := by decide +kernel
set_option maxRecDepth 20000 in
theorem dW_690 : decode cL_law 690 = .ok (.iconst 1, 1) := by decide +kernel
set_option maxRecDepth 20000 in
theorem dW_691 : decode cL_law 691 = .ok (.iadd, 1) := by decide +kernel
set_option maxRecDepth 20000 in
theorem dW_692 : decode cL_law 692 = .ok (.iaload, 1) := by decide +kernel
set_option maxRecDepth 20000 in
theorem dW_693 : decode cL_law 693 = .ok (.aload_n 0, 1) := by decide +kernel
set_option maxRecDepth 20000 in
theorem dW_694 : decode cL_law 694 = .ok (.iload 4, 2) := by decide +kernel
set_option maxRecDepth 20000 in
theorem dW_696 : decode cL_law 696 = .ok (.iconst 2, 1) := by decide +kernel
set_option maxRecDepth 20000 in
theorem dW_697 : decode cL_law 697 = .ok (.iadd, 1) := by decide +kernel
set_option maxRecDepth 20000 in
theorem dW_698 : decode cL_law 698 = .ok (.iaload, 1) := by decide +kernel
set_option maxRecDepth 20000 in
theorem dW_699 : decode cL_law 699 = .ok (.i2l, 1) := by decide +kernel
set_option maxRecDepth 20000 in
theorem dW_700 : decode cL_law 700 = .ok (.bipush 32, 2) := by decide +kernel
set_option maxRecDepth 20000 in
theorem dW_702 : decode cL_law 702 = .ok (.lshl, 1) := by decide +kernel
set_option maxRecDepth 20000 in
theorem dW_703 : decode cL_law 703 = .ok (.aload_n 0, 1) := by decide +kernel
set_option maxRecDepth 20000 in
theorem dW_704 : decode cL_law 704 = .ok (.iload 4, 2) := by decide +kernel
set_option maxRecDepth 20000 in
theorem dW_706 : decode cL_law 706 = .ok (.iconst 3, 1) := by decide +kernel
set_option maxRecDepth 20000 in
theorem dW_707 : decode cL_law 707 = .ok (.iadd, 1) := by decide +kernel
set_option maxRecDepth 20000 in
theorem dW_708 : decode cL_law 708 = .ok (.iaload, 1) := by decide +kernel
set_option maxRecDepth 20000 in
theorem dW_709 : decode cL_law 709 = .ok (.i2l, 1) := by decide +kernel
set_option maxRecDepth 20000 in
theorem dW_710 : decode cL_law 710 = .ok (.ldc2_w 85, 3) := by decide +kernel
set_option maxRecDepth 20000 in
theorem dW_713 : decode cL_law 713 = .ok (.land, 1) := by decide +kernel
set_option maxRecDepth 20000 in
theorem dW_714 : decode cL_law 714 = .ok (.lor, 1) := by decide +kernel
set_option maxRecDepth 20000 in
theorem dW_715 : decode cL_law 715 = .ok (.invokevirtual 87, 3) := by decide +kernel
set_option maxRecDepth 20000 in
theorem dW_718 : decode cL_law 718 = .ok (.pop, 1) := by decide +kernel
set_option maxRecDepth 20000 in
theorem dW_719 : decode cL_law 719 = .ok (.aload_n 2, 1) := by decide +kernel
set_option maxRecDepth 20000 in
theorem dW_720 : decode cL_law 720 = .ok (.aload_n 0, 1) := by decide +kernel
set_option maxRecDepth 20000 in
theorem dW_721 : decode cL_law 721 = .ok (.iload 4, 2) := by decide +kernel
set_option maxRecDepth 20000 in
theorem dW_723 : decode cL_law 723 = .ok (.iconst 1, 1) := by decide +kernel
set_option maxRecDepth 20000 in
theorem dW_724 : decode cL_law 724 = .ok (.iadd, 1) := by decide +kernel
set_option maxRecDepth 20000 in
theorem dW_725 : decode cL_law 725 = .ok (.iaload, 1) := by decide +kernel
set_option maxRecDepth 20000 in
theorem dW_726 : decode cL_law 726 = .ok (.aload_n 0, 1) := by decide +kernel
set_option maxRecDepth 20000 in
theorem dW_727 : decode cL_law 727 = .ok (.iload 4, 2) := by decide +kernel
set_option maxRecDepth 20000 in
theorem dW_729 : decode cL_law 729 = .ok (.iconst 2, 1) := by decide +kernel
set_option maxRecDepth 20000 in
theorem dW_730 : decode cL_law 730 = .ok (.iadd, 1) := by decide +kernel
set_option maxRecDepth 20000 in
theorem dW_731 : decode cL_law 731 = .ok (.iaload, 1) := by decide +kernel
set_option maxRecDepth 20000 in
theorem dW_732 : decode cL_law 732 = .ok (.i2l, 1) := by decide +kernel
set_option maxRecDepth 20000 in
theorem dW_733 : decode cL_law 733 = .ok (.bipush 32, 2) := by decide +kernel
set_option maxRecDepth 20000 in
theorem dW_735 : decode cL_law 735 = .ok (.lshl, 1) := by decide +kernel
set_option maxRecDepth 20000 in
theorem dW_736 : decode cL_law 736 = .ok (.aload_n 0, 1) := by decide +kernel
set_option maxRecDepth 20000 in
theorem dW_737 : decode cL_law 737 = .ok (.iload 4, 2) := by decide +kernel
set_option maxRecDepth 20000 in
theorem dW_739 : decode cL_law 739 = .ok (.iconst 3, 1) := by decide +kernel
set_option maxRecDepth 20000 in
theorem dW_740 : decode cL_law 740 = .ok (.iadd, 1) := by decide +kernel
set_option maxRecDepth 20000 in
theorem dW_741 : decode cL_law 741 = .ok (.iaload, 1) := by decide +kernel
set_option maxRecDepth 20000 in
theorem dW_742 : decode cL_law 742 = .ok (.i2l, 1) := by decide +kernel
set_option maxRecDepth 20000 in
theorem dW_743 : decode cL_law 743 = .ok (.ldc2_w 85, 3) := by decide +kernel
set_option maxRecDepth 20000 in
theorem dW_746 : decode cL_law 746 = .ok (.land, 1) := by decide +kernel
set_option maxRecDepth 20000 in
theorem dW_747 : decode cL_law 747 = .ok (.lor, 1) := by decide +kernel
set_option maxRecDepth 20000 in
theorem dW_748 : decode cL_law 748 = .ok (.invokevirtual 91, 3) := by decide +kernel
set_option maxRecDepth 20000 in
theorem dW_751 : decode cL_law 751 = .ok (.pop, 1) := by decide +kernel
set_option maxRecDepth 20000 in
theorem dW_752 : decode cL_law 752 = .ok (.goto 849, 3) := by decide +kernel
set_option maxRecDepth 20000 in
theorem dW_755 : decode cL_law 755 = .ok (.aload_n 1, 1) := by decide +kernel
set_option maxRecDepth 20000 in
theorem dW_756 : decode cL_law 756 = .ok (.invokevirtual 92, 3) := by decide +kernel
set_option maxRecDepth 20000 in
theorem dW_759 : decode cL_law 759 = .ok (.pop, 1) := by decide +kernel
set_option maxRecDepth 20000 in
theorem dW_760 : decode cL_law 760 = .ok (.aload_n 2, 1) := by decide +kernel
set_option maxRecDepth 20000 in
theorem dW_761 : decode cL_law 761 = .ok (.invokevirtual 95, 3) := by decide +kernel
set_option maxRecDepth 20000 in
theorem dW_764 : decode cL_law 764 = .ok (.pop, 1) := by decide +kernel
set_option maxRecDepth 20000 in
theorem dW_765 : decode cL_law 765 = .ok (.goto 836, 3) := by decide +kernel
set_option maxRecDepth 20000 in
theorem dW_768 : decode cL_law 768 = .ok (.aload_n 1, 1) := by decide +kernel
set_option maxRecDepth 20000 in
theorem dW_769 : decode cL_law 769 = .ok (.aload_n 0, 1) := by decide +kernel
set_option maxRecDepth 20000 in
theorem dW_770 : decode cL_law 770 = .ok (.iload 4, 2) := by decide +kernel
set_option maxRecDepth 20000 in
theorem dW_772 : decode cL_law 772 = .ok (.iconst 1, 1) := by decide +kernel
set_option maxRecDepth 20000 in
theorem dW_773 : decode cL_law 773 = .ok (.iadd, 1) := by decide +kernel
set_option maxRecDepth 20000 in
theorem dW_774 : decode cL_law 774 = .ok (.iaload, 1) := by decide +kernel
set_option maxRecDepth 20000 in
theorem dW_775 : decode cL_law 775 = .ok (.aload_n 0, 1) := by decide +kernel
set_option maxRecDepth 20000 in
theorem dW_776 : decode cL_law 776 = .ok (.iload 4, 2) := by decide +kernel
set_option maxRecDepth 20000 in
theorem dW_778 : decode cL_law 778 = .ok (.iconst 2, 1) := by decide +kernel
set_option maxRecDepth 20000 in
theorem dW_779 : decode cL_law 779 = .ok (.iadd, 1) := by decide +kernel
set_option maxRecDepth 20000 in
theorem dW_780 : decode cL_law 780 = .ok (.iaload, 1) := by decide +kernel
set_option maxRecDepth 20000 in
theorem dW_781 : decode cL_law 781 = .ok (.invokevirtual 96, 3) := by decide +kernel
set_option maxRecDepth 20000 in
theorem dW_784 : decode cL_law 784 = .ok (.pop, 1) := by decide +kernel
set_option maxRecDepth 20000 in
theorem dW_785 : decode cL_law 785 = .ok (.aload_n 2, 1) := by decide +kernel
set_option maxRecDepth 20000 in
theorem dW_786 : decode cL_law 786 = .ok (.aload_n 0, 1) := by decide +kernel
set_option maxRecDepth 20000 in
theorem dW_787 : decode cL_law 787 = .ok (.iload 4, 2) := by decide +kernel
set_option maxRecDepth 20000 in
theorem dW_789 : decode cL_law 789 = .ok (.iconst 1, 1) := by decide +kernel
set_option maxRecDepth 20000 in
theorem dW_790 : decode cL_law 790 = .ok (.iadd, 1) := by decide +kernel
set_option maxRecDepth 20000 in
theorem dW_791 : decode cL_law 791 = .ok (.iaload, 1) := by decide +kernel
set_option maxRecDepth 20000 in
theorem dW_792 : decode cL_law 792 = .ok (.aload_n 0, 1) := by decide +kernel
set_option maxRecDepth 20000 in
theorem dW_793 : decode cL_law 793 = .ok (.iload 4, 2) := by decide +kernel
set_option maxRecDepth 20000 in
theorem dW_795 : decode cL_law 795 = .ok (.iconst 2, 1) := by decide +kernel
set_option maxRecDepth 20000 in
theorem dW_796 : decode cL_law 796 = .ok (.iadd, 1) := by decide +kernel
set_option maxRecDepth 20000 in
theorem dW_797 : decode cL_law 797 = .ok (.iaload, 1) := by decide +kernel
set_option maxRecDepth 20000 in
theorem dW_798 : decode cL_law 798 = .ok (.invokevirtual 99, 3) := by decide +kernel
set_option maxRecDepth 20000 in
theorem dW_801 : decode cL_law 801 = .ok (.pop, 1) := by decide +kernel
set_option maxRecDepth 20000 in
theorem dW_802 : decode cL_law 802 = .ok (.goto 799, 3) := by decide +kernel
set_option maxRecDepth 20000 in
theorem dW_805 : decode cL_law 805 = .ok (.aload_n 1, 1) := by decide +kernel
set_option maxRecDepth 20000 in
theorem dW_806 : decode cL_law 806 = .ok (.aload_n 0, 1) := by decide +kernel
set_option maxRecDepth 20000 in
theorem dW_807 : decode cL_law 807 = .ok (.iload 4, 2) := by decide +kernel
set_option maxRecDepth 20000 in
theorem dW_809 : decode cL_law 809 = .ok (.iconst 1, 1) := by decide +kernel
set_option maxRecDepth 20000 in
theorem dW_810 : decode cL_law 810 = .ok (.iadd, 1) := by decide +kernel
set_option maxRecDepth 20000 in
theorem dW_811 : decode cL_law 811 = .ok (.iaload, 1) := by decide +kernel
set_option maxRecDepth 20000 in
theorem dW_812 : decode cL_law 812 = .ok (.aload_n 0, 1) := by decide +kernel
set_option maxRecDepth 20000 in
theorem dW_813 : decode cL_law 813 = .ok (.iload 4, 2) := by decide +kernel
set_option maxRecDepth 20000 in
theorem dW_815 : decode cL_law 815 = .ok (.iconst 2, 1) := by decide +kernel
set_option maxRecDepth 20000 in
theorem dW_816 : decode cL_law 816 = .ok (.iadd, 1) := by decide +kernel
set_option maxRecDepth 20000 in
theorem dW_817 : decode cL_law 817 = .ok (.iaload, 1) := by decide +kernel
set_option maxRecDepth 20000 in
theorem dW_818 : decode cL_law 818 = .ok (.invokevirtual 100, 3) := by decide +kernel
set_option maxRecDepth 20000 in
theorem dW_821 : decode cL_law 821 = .ok (.pop, 1) := by decide +kernel
set_option maxRecDepth 20000 in
theorem dW_822 : decode cL_law 822 = .ok (.aload_n 2, 1) := by decide +kernel
set_option maxRecDepth 20000 in
theorem dW_823 : decode cL_law 823 = .ok (.aload_n 0, 1) := by decide +kernel
set_option maxRecDepth 20000 in
theorem dW_824 : decode cL_law 824 = .ok (.iload 4, 2) := by decide +kernel
set_option maxRecDepth 20000 in
theorem dW_826 : decode cL_law 826 = .ok (.iconst 1, 1) := by decide +kernel
set_option maxRecDepth 20000 in
theorem dW_827 : decode cL_law 827 = .ok (.iadd, 1) := by decide +kernel
set_option maxRecDepth 20000 in
theorem dW_828 : decode cL_law 828 = .ok (.iaload, 1) := by decide +kernel
set_option maxRecDepth 20000 in
theorem dW_829 : decode cL_law 829 = .ok (.aload_n 0, 1) := by decide +kernel
set_option maxRecDepth 20000 in
theorem dW_830 : decode cL_law 830 = .ok (.iload 4, 2) := by decide +kernel
set_option maxRecDepth 20000 in
theorem dW_832 : decode cL_law 832 = .ok (.iconst 2, 1) := by decide +kernel
set_option maxRecDepth 20000 in
theorem dW_833 : decode cL_law 833 = .ok (.iadd, 1) := by decide +kernel
set_option maxRecDepth 20000 in
theorem dW_834 : decode cL_law 834 = .ok (.iaload, 1) := by decide +kernel
set_option maxRecDepth 20000 in
theorem dW_835 : decode cL_law 835 = .ok (.invokevirtual 103, 3) := by decide +kernel
set_option maxRecDepth 20000 in
theorem dW_838 : decode cL_law 838 = .ok (.pop, 1) := by decide +kernel
set_option maxRecDepth 20000 in
theorem dW_839 : decode cL_law 839 = .ok (.goto 762, 3) := by decide +kernel
set_option maxRecDepth 20000 in
theorem dW_842 : decode cL_law 842 = .ok (.aload_n 1, 1) := by decide +kernel
set_option maxRecDepth 20000 in
theorem dW_843 : decode cL_law 843 = .ok (.aload_n 0, 1) := by decide +kernel
set_option maxRecDepth 20000 in
theorem dW_844 : decode cL_law 844 = .ok (.iload 4, 2) := by decide +kernel
set_option maxRecDepth 20000 in
theorem dW_846 : decode cL_law 846 = .ok (.iconst 1, 1) := by decide +kernel
set_option maxRecDepth 20000 in
theorem dW_847 : decode cL_law 847 = .ok (.iadd, 1) := by decide +kernel
set_option maxRecDepth 20000 in
theorem dW_848 : decode cL_law 848 = .ok (.iaload, 1) := by decide +kernel
set_option maxRecDepth 20000 in
theorem dW_849 : decode cL_law 849 = .ok (.aload_n 0, 1) := by decide +kernel
set_option maxRecDepth 20000 in
theorem dW_850 : decode cL_law 850 = .ok (.iload 4, 2) := by decide +kernel
set_option maxRecDepth 20000 in
theorem dW_852 : decode cL_law 852 = .ok (.iconst 2, 1) := by decide +kernel
set_option maxRecDepth 20000 in
theorem dW_853 : decode cL_law 853 = .ok (.iadd, 1) := by decide +kernel
set_option maxRecDepth 20000 in
theorem dW_854 : decode cL_law 854 = .ok (.iaload, 1) := by decide +kernel
set_option maxRecDepth 20000 in
theorem dW_855 : decode cL_law 855 = .ok (.invokevirtual 104, 3) := by decide +kernel
set_option maxRecDepth 20000 in
theorem dW_858 : decode cL_law 858 = .ok (.pop, 1) := by decide +kernel
set_option maxRecDepth 20000 in
theorem dW_859 : decode cL_law 859 = .ok (.aload_n 2, 1) := by decide +kernel
set_option maxRecDepth 20000 in
theorem dW_860 : decode cL_law 860 = .ok (.aload_n 0, 1) := by decide +kernel
set_option maxRecDepth 20000 in
theorem dW_861 : decode cL_law 861 = .ok (.iload 4, 2) := by decide +kernel
set_option maxRecDepth 20000 in
theorem dW_863 : decode cL_law 863 = .ok (.iconst 1, 1) := by decide +kernel
set_option maxRecDepth 20000 in
theorem dW_864 : decode cL_law 864 = .ok (.iadd, 1) := by decide +kernel
set_option maxRecDepth 20000 in
theorem dW_865 : decode cL_law 865 = .ok (.iaload, 1) := by decide +kernel
set_option maxRecDepth 20000 in
theorem dW_866 : decode cL_law 866 = .ok (.aload_n 0, 1) := by decide +kernel
set_option maxRecDepth 20000 in
theorem dW_867 : decode cL_law 867 = .ok (.iload 4, 2) := by decide +kernel
set_option maxRecDepth 20000 in
theorem dW_869 : decode cL_law 869 = .ok (.iconst 2, 1) := by decide +kernel
set_option maxRecDepth 20000 in
theorem dW_870 : decode cL_law 870 = .ok (.iadd, 1) := by decide +kernel
set_option maxRecDepth 20000 in
theorem dW_871 : decode cL_law 871 = .ok (.iaload, 1) := by decide +kernel
set_option maxRecDepth 20000 in
theorem dW_872 : decode cL_law 872 = .ok (.invokevirtual 107, 3) := by decide +kernel
set_option maxRecDepth 20000 in
theorem dW_875 : decode cL_law 875 = .ok (.pop, 1) := by decide +kernel
set_option maxRecDepth 20000 in
theorem dW_876 : decode cL_law 876 = .ok (.goto 725, 3) := by decide +kernel
set_option maxRecDepth 20000 in
theorem dW_879 : decode cL_law 879 = .ok (.aload_n 1, 1) := by decide +kernel
set_option maxRecDepth 20000 in
theorem dW_880 : decode cL_law 880 = .ok (.aload_n 0, 1) := by decide +kernel
set_option maxRecDepth 20000 in
theorem dW_881 : decode cL_law 881 = .ok (.iload 4, 2) := by decide +kernel
set_option maxRecDepth 20000 in
theorem dW_883 : decode cL_law 883 = .ok (.iconst 1, 1) := by decide +kernel
set_option maxRecDepth 20000 in
theorem dW_884 : decode cL_law 884 = .ok (.iadd, 1) := by decide +kernel
set_option maxRecDepth 20000 in
theorem dW_885 : decode cL_law 885 = .ok (.iaload, 1) := by decide +kernel
set_option maxRecDepth 20000 in
theorem dW_886 : decode cL_law 886 = .ok (.aload_n 0, 1) := by decide +kernel
set_option maxRecDepth 20000 in
theorem dW_887 : decode cL_law 887 = .ok (.iload 4, 2) := by decide +kernel
set_option maxRecDepth 20000 in
theorem dW_889 : decode cL_law 889 = .ok (.iconst 2, 1) := by decide +kernel
set_option maxRecDepth 20000 in
theorem dW_890 : decode cL_law 890 = .ok (.iadd, 1) := by decide +kernel
set_option maxRecDepth 20000 in
theorem dW_891 : decode cL_law 891 = .ok (.iaload, 1) := by decide +kernel
set_option maxRecDepth 20000 in
theorem dW_892 : decode cL_law 892 = .ok (.invokevirtual 108, 3) := by decide +kernel
set_option maxRecDepth 20000 in
theorem dW_895 : decode cL_law 895 = .ok (.pop, 1) := by decide +kernel
set_option maxRecDepth 20000 in
theorem dW_896 : decode cL_law 896 = .ok (.aload_n 2, 1) := by decide +kernel
set_option maxRecDepth 20000 in
theorem dW_897 : decode cL_law 897 = .ok (.aload_n 0, 1) := by decide +kernel
set_option maxRecDepth 20000 in
theorem dW_898 : decode cL_law 898 = .ok (.iload 4, 2) := by decide +kernel
set_option maxRecDepth 20000 in
theorem dW_900 : decode cL_law 900 = .ok (.iconst 1, 1) := by decide +kernel
set_option maxRecDepth 20000 in
theorem dW_901 : decode cL_law 901 = .ok (.iadd, 1) := by decide +kernel
set_option maxRecDepth 20000 in
theorem dW_902 : decode cL_law 902 = .ok (.iaload, 1) := by decide +kernel
set_option maxRecDepth 20000 in
theorem dW_903 : decode cL_law 903 = .ok (.aload_n 0, 1) := by decide +kernel
set_option maxRecDepth 20000 in
theorem dW_904 : decode cL_law 904 = .ok (.iload 4, 2) := by decide +kernel
set_option maxRecDepth 20000 in
theorem dW_906 : decode cL_law 906 = .ok (.iconst 2, 1) := by decide +kernel
set_option maxRecDepth 20000 in
theorem dW_907 : decode cL_law 907 = .ok (.iadd, 1) := by decide +kernel
set_option maxRecDepth 20000 in
theorem dW_908 : decode cL_law 908 = .ok (.iaload, 1) := by decide +kernel
set_option maxRecDepth 20000 in
theorem dW_909 : decode cL_law 909 = .ok (.invokevirtual 111, 3) := by decide +kernel
set_option maxRecDepth 20000 in
theorem dW_912 : decode cL_law 912 = .ok (.pop, 1) := by decide +kernel
set_option maxRecDepth 20000 in
theorem dW_913 : decode cL_law 913 = .ok (.goto 688, 3) := by decide +kernel
set_option maxRecDepth 20000 in
theorem dW_916 : decode cL_law 916 = .ok (.aload_n 1, 1) := by decide +kernel
set_option maxRecDepth 20000 in
theorem dW_917 : decode cL_law 917 = .ok (.aload_n 0, 1) := by decide +kernel
set_option maxRecDepth 20000 in
theorem dW_918 : decode cL_law 918 = .ok (.iload 4, 2) := by decide +kernel
set_option maxRecDepth 20000 in
theorem dW_920 : decode cL_law 920 = .ok (.iconst 1, 1) := by decide +kernel
set_option maxRecDepth 20000 in
theorem dW_921 : decode cL_law 921 = .ok (.iadd, 1) := by decide +kernel
set_option maxRecDepth 20000 in
theorem dW_922 : decode cL_law 922 = .ok (.iaload, 1) := by decide +kernel
set_option maxRecDepth 20000 in
theorem dW_923 : decode cL_law 923 = .ok (.aload_n 0, 1) := by decide +kernel
set_option maxRecDepth 20000 in
theorem dW_924 : decode cL_law 924 = .ok (.iload 4, 2) := by decide +kernel
set_option maxRecDepth 20000 in
theorem dW_926 : decode cL_law 926 = .ok (.iconst 2, 1) := by decide +kernel
set_option maxRecDepth 20000 in
theorem dW_927 : decode cL_law 927 = .ok (.iadd, 1) := by decide +kernel
set_option maxRecDepth 20000 in
theorem dW_928 : decode cL_law 928 = .ok (.iaload, 1) := by decide +kernel
set_option maxRecDepth 20000 in
theorem dW_929 : decode cL_law 929 = .ok (.invokevirtual 112, 3) := by decide +kernel
set_option maxRecDepth 20000 in
theorem dW_932 : decode cL_law 932 = .ok (.pop, 1) := by decide +kernel
set_option maxRecDepth 20000 in
theorem dW_933 : decode cL_law 933 = .ok (.aload_n 2, 1) := by decide +kernel
set_option maxRecDepth 20000 in
theorem dW_934 : decode cL_law 934 = .ok (.aload_n 0, 1) := by decide +kernel
set_option maxRecDepth 20000 in
theorem dW_935 : decode cL_law 935 = .ok (.iload 4, 2) := by decide +kernel
set_option maxRecDepth 20000 in
theorem dW_937 : decode cL_law 937 = .ok (.iconst 1, 1) := by decide +kernel
set_option maxRecDepth 20000 in
theorem dW_938 : decode cL_law 938 = .ok (.iadd, 1) := by decide +kernel
set_option maxRecDepth 20000 in
theorem dW_939 : decode cL_law 939 = .ok (.iaload, 1) := by decide +kernel
set_option maxRecDepth 20000 in
theorem dW_940 : decode cL_law 940 = .ok (.aload_n 0, 1) := by decide +kernel
set_option maxRecDepth 20000 in
theorem dW_941 : decode cL_law 941 = .ok (.iload 4, 2) := by decide +kernel
set_option maxRecDepth 20000 in
theorem dW_943 : decode cL_law 943 = .ok (.iconst 2, 1) := by decide +kernel
set_option maxRecDepth 20000 in
theorem dW_944 : decode cL_law 944 = .ok (.iadd, 1) := by decide +kernel
set_option maxRecDepth 20000 in
theorem dW_945 : decode cL_law 945 = .ok (.iaload, 1) := by decide +kernel
set_option maxRecDepth 20000 in
theorem dW_946 : decode cL_law 946 = .ok (.invokevirtual 115, 3) := by decide +kernel
set_option maxRecDepth 20000 in
theorem dW_949 : decode cL_law 949 = .ok (.pop, 1) := by decide +kernel
set_option maxRecDepth 20000 in
theorem dW_950 : decode cL_law 950 = .ok (.goto 651, 3) := by decide +kernel
set_option maxRecDepth 20000 in
theorem dW_953 : decode cL_law 953 = .ok (.aload_n 1, 1) := by decide +kernel
set_option maxRecDepth 20000 in
theorem dW_954 : decode cL_law 954 = .ok (.aload_n 0, 1) := by decide +kernel
set_option maxRecDepth 20000 in
theorem dW_955 : decode cL_law 955 = .ok (.iload 4, 2) := by decide +kernel
set_option maxRecDepth 20000 in
theorem dW_957 : decode cL_law 957 = .ok (.iconst 1, 1) := by decide +kernel
set_option maxRecDepth 20000 in
theorem dW_958 : decode cL_law 958 = .ok (.iadd, 1) := by decide +kernel
set_option maxRecDepth 20000 in
theorem dW_959 : decode cL_law 959 = .ok (.iaload, 1) := by decide +kernel
set_option maxRecDepth 20000 in
theorem dW_960 : decode cL_law 960 = .ok (.aload_n 0, 1) := by decide +kernel
set_option maxRecDepth 20000 in
theorem dW_961 : decode cL_law 961 = .ok (.iload 4, 2) := by decide +kernel
set_option maxRecDepth 20000 in
theorem dW_963 : decode cL_law 963 = .ok (.iconst 2, 1) := by decide +kernel
set_option maxRecDepth 20000 in
theorem dW_964 : decode cL_law 964 = .ok (.iadd, 1) := by decide +kernel
set_option maxRecDepth 20000 in
theorem dW_965 : decode cL_law 965 = .ok (.iaload, 1) := by decide +kernel
set_option maxRecDepth 20000 in
theorem dW_966 : decode cL_law 966 = .ok (.invokevirtual 116, 3) := by decide +kernel
set_option maxRecDepth 20000 in
theorem dW_969 : decode cL_law 969 = .ok (.pop, 1) := by decide +kernel
set_option maxRecDepth 20000 in
theorem dW_970 : decode cL_law 970 = .ok (.aload_n 2, 1) := by decide +kernel
set_option maxRecDepth 20000 in
theorem dW_971 : decode cL_law 971 = .ok (.aload_n 0, 1) := by decide +kernel
set_option maxRecDepth 20000 in
theorem dW_972 : decode cL_law 972 = .ok (.iload 4, 2) := by decide +kernel
set_option maxRecDepth 20000 in
theorem dW_974 : decode cL_law 974 = .ok (.iconst 1, 1) := by decide +kernel
set_option maxRecDepth 20000 in
theorem dW_975 : decode cL_law 975 = .ok (.iadd, 1) := by decide +kernel
set_option maxRecDepth 20000 in
theorem dW_976 : decode cL_law 976 = .ok (.iaload, 1) := by decide +kernel
set_option maxRecDepth 20000 in
theorem dW_977 : decode cL_law 977 = .ok (.aload_n 0, 1) := by decide +kernel
set_option maxRecDepth 20000 in
theorem dW_978 : decode cL_law 978 = .ok (.iload 4, 2) := by decide +kernel
set_option maxRecDepth 20000 in
theorem dW_980 : decode cL_law 980 = .ok (.iconst 2, 1) := by decide +kernel
set_option maxRecDepth 20000 in
theorem dW_981 : decode cL_law 981 = .ok (.iadd, 1) := by decide +kernel
set_option maxRecDepth 20000 in
theorem dW_982 : decode cL_law 982 = .ok (.iaload, 1) := by decide +kernel
set_option maxRecDepth 20000 in
theorem dW_983 : decode cL_law 983 = .ok (.invokevirtual 119, 3) := by decide +kernel
set_option maxRecDepth 20000 in
theorem dW_986 : decode cL_law 986 = .ok (.pop, 1) := by decide +kernel
set_option maxRecDepth 20000 in
theorem dW_987 : decode cL_law 987 = .ok (.goto 614, 3) := by decide +kernel
set_option maxRecDepth 20000 in
theorem dW_990 : decode cL_law 990 = .ok (.aload_n 1, 1) := by decide +kernel
set_option maxRecDepth 20000 in
theorem dW_991 : decode cL_law 991 = .ok (.aload_n 0, 1) := by decide +kernel
set_option maxRecDepth 20000 in
theorem dW_992 : decode cL_law 992 = .ok (.iload 4, 2) := by decide +kernel
set_option maxRecDepth 20000 in
theorem dW_994 : decode cL_law 994 = .ok (.iconst 1, 1) := by decide +kernel
set_option maxRecDepth 20000 in
theorem dW_995 : decode cL_law 995 = .ok (.iadd, 1) := by decide +kernel
set_option maxRecDepth 20000 in
theorem dW_996 : decode cL_law 996 = .ok (.iaload, 1) := by decide +kernel
set_option maxRecDepth 20000 in
theorem dW_997 : decode cL_law 997 = .ok (.invokevirtual 120, 3) := by decide +kernel
set_option maxRecDepth 20000 in
theorem dW_1000 : decode cL_law 1000 = .ok (.pop, 1) := by decide +kernel
set_option maxRecDepth 20000 in
theorem dW_1001 : decode cL_law 1001 = .ok (.aload_n 2, 1) := by decide +kernel
set_option maxRecDepth 20000 in
theorem dW_1002 : decode cL_law 1002 = .ok (.aload_n 0, 1) := by decide +kernel
set_option maxRecDepth 20000 in
theorem dW_1003 : decode cL_law 1003 = .ok (.iload 4, 2) := by decide +kernel
set_option maxRecDepth 20000 in
theorem dW_1005 : decode cL_law 1005 = .ok (.iconst 1, 1) := by decide +kernel
set_option maxRecDepth 20000 in
theorem dW_1006 : decode cL_law 1006 = .ok (.iadd, 1) := by decide +kernel
set_option maxRecDepth 20000 in
theorem dW_1007 : decode cL_law 1007 = .ok (.iaload, 1) := by decide +kernel
set_option maxRecDepth 20000 in
theorem dW_1008 : decode cL_law 1008 = .ok (.invokevirtual 123, 3) := by decide +kernel
set_option maxRecDepth 20000 in
theorem dW_1011 : decode cL_law 1011 = .ok (.pop, 1) := by decide +kernel
set_option maxRecDepth 20000 in
theorem dW_1012 : decode cL_law 1012 = .ok (.goto 589, 3) := by decide +kernel
set_option maxRecDepth 20000 in
theorem dW_1015 : decode cL_law 1015 = .ok (.aload_n 1, 1) := by decide +kernel
set_option maxRecDepth 20000 in
theorem dW_1016 : decode cL_law 1016 = .ok (.aload_n 0, 1) := by decide +kernel
set_option maxRecDepth 20000 in
theorem dW_1017 : decode cL_law 1017 = .ok (.iload 4, 2) := by decide +kernel
set_option maxRecDepth 20000 in
theorem dW_1019 : decode cL_law 1019 = .ok (.iconst 1, 1) := by decide +kernel
set_option maxRecDepth 20000 in
theorem dW_1020 : decode cL_law 1020 = .ok (.iadd, 1) := by decide +kernel
set_option maxRecDepth 20000 in
theorem dW_1021 : decode cL_law 1021 = .ok (.iaload, 1) := by decide +kernel
set_option maxRecDepth 20000 in
theorem dW_1022 : decode cL_law 1022 = .ok (.aload_n 0, 1) := by decide +kernel
set_option maxRecDepth 20000 in
theorem dW_1023 : decode cL_law 1023 = .ok (.iload 4, 2) := by decide +kernel
set_option maxRecDepth 20000 in
theorem dW_1025 : decode cL_law 1025 = .ok (.iconst 2, 1) := by decide +kernel
set_option maxRecDepth 20000 in
theorem dW_1026 : decode cL_law 1026 = .ok (.iadd, 1) := by decide +kernel
set_option maxRecDepth 20000 in
theorem dW_1027 : decode cL_law 1027 = .ok (.iaload, 1) := by decide +kernel
set_option maxRecDepth 20000 in
theorem dW_1028 : decode cL_law 1028 = .ok (.invokevirtual 124, 3) := by decide +kernel
set_option maxRecDepth 20000 in
theorem dW_1031 : decode cL_law 1031 = .ok (.pop, 1) := by decide +kernel
set_option maxRecDepth 20000 in
theorem dW_1032 : decode cL_law 1032 = .ok (.aload_n 2, 1) := by decide +kernel
set_option maxRecDepth 20000 in
theorem dW_1033 : decode cL_law 1033 = .ok (.aload_n 0, 1) := by decide +kernel
set_option maxRecDepth 20000 in
theorem dW_1034 : decode cL_law 1034 = .ok (.iload 4, 2) := by decide +kernel
set_option maxRecDepth 20000 in
theorem dW_1036 : decode cL_law 1036 = .ok (.iconst 1, 1) := by decide +kernel
set_option maxRecDepth 20000 in
theorem dW_1037 : decode cL_law 1037 = .ok (.iadd, 1) := by decide +kernel
set_option maxRecDepth 20000 in
theorem dW_1038 : decode cL_law 1038 = .ok (.iaload, 1) := by decide +kernel
set_option maxRecDepth 20000 in
theorem dW_1039 : decode cL_law 1039 = .ok (.aload_n 0, 1) := by decide +kernel
set_option maxRecDepth 20000 in
theorem dW_1040 : decode cL_law 1040 = .ok (.iload 4, 2) := by decide +kernel
set_option maxRecDepth 20000 in
theorem dW_1042 : decode cL_law 1042 = .ok (.iconst 2, 1) := by decide +kernel
set_option maxRecDepth 20000 in
theorem dW_1043 : decode cL_law 1043 = .ok (.iadd, 1) := by decide +kernel
set_option maxRecDepth 20000 in
theorem dW_1044 : decode cL_law 1044 = .ok (.iaload, 1) := by decide +kernel
set_option maxRecDepth 20000 in
theorem dW_1045 : decode cL_law 1045 = .ok (.invokevirtual 127, 3) := by decide +kernel
set_option maxRecDepth 20000 in
theorem dW_1048 : decode cL_law 1048 = .ok (.pop, 1) := by decide +kernel
set_option maxRecDepth 20000 in
theorem dW_1049 : decode cL_law 1049 = .ok (.goto 552, 3) := by decide +kernel
set_option maxRecDepth 20000 in
theorem dW_1052 : decode cL_law 1052 = .ok (.aload_n 1, 1) := by decide +kernel
set_option maxRecDepth 20000 in
theorem dW_1053 : decode cL_law 1053 = .ok (.aload_n 0, 1) := by decide +kernel
set_option maxRecDepth 20000 in
theorem dW_1054 : decode cL_law 1054 = .ok (.iload 4, 2) := by decide +kernel
set_option maxRecDepth 20000 in
theorem dW_1056 : decode cL_law 1056 = .ok (.iconst 1, 1) := by decide +kernel
set_option maxRecDepth 20000 in
theorem dW_1057 : decode cL_law 1057 = .ok (.iadd, 1) := by decide +kernel
set_option maxRecDepth 20000 in
theorem dW_1058 : decode cL_law 1058 = .ok (.iaload, 1) := by decide +kernel
set_option maxRecDepth 20000 in
theorem dW_1059 : decode cL_law 1059 = .ok (.aload_n 0, 1) := by decide +kernel
set_option maxRecDepth 20000 in
theorem dW_1060 : decode cL_law 1060 = .ok (.iload 4, 2) := by decide +kernel
set_option maxRecDepth 20000 in
theorem dW_1062 : decode cL_law 1062 = .ok (.iconst 2, 1) := by decide +kernel
set_option maxRecDepth 20000 in
theorem dW_1063 : decode cL_law 1063 = .ok (.iadd, 1) := by decide +kernel
set_option maxRecDepth 20000 in
theorem dW_1064 : decode cL_law 1064 = .ok (.iaload, 1) := by decide +kernel
set_option maxRecDepth 20000 in
theorem dW_1065 : decode cL_law 1065 = .ok (.ifCond .eq 7, 3) := by decide +kernel
set_option maxRecDepth 20000 in
theorem dW_1068 : decode cL_law 1068 = .ok (.iconst 1, 1) := by decide +kernel
set_option maxRecDepth 20000 in
theorem dW_1069 : decode cL_law 1069 = .ok (.goto 4, 3) := by decide +kernel
set_option maxRecDepth 20000 in
theorem dW_1072 : decode cL_law 1072 = .ok (.iconst 0, 1) := by decide +kernel
set_option maxRecDepth 20000 in
theorem dW_1073 : decode cL_law 1073 = .ok (.invokevirtual 128, 3) := by decide +kernel
set_option maxRecDepth 20000 in
theorem dW_1076 : decode cL_law 1076 = .ok (.pop, 1) := by decide +kernel
set_option maxRecDepth 20000 in
theorem dW_1077 : decode cL_law 1077 = .ok (.aload_n 2, 1) := by decide +kernel
set_option maxRecDepth 20000 in
theorem dW_1078 : decode cL_law 1078 = .ok (.aload_n 0, 1) := by decide +kernel
set_option maxRecDepth 20000 in
theorem dW_1079 : decode cL_law 1079 = .ok (.iload 4, 2) := by decide +kernel
set_option maxRecDepth 20000 in
theorem dW_1081 : decode cL_law 1081 = .ok (.iconst 1, 1) := by decide +kernel
set_option maxRecDepth 20000 in
theorem dW_1082 : decode cL_law 1082 = .ok (.iadd, 1) := by decide +kernel
set_option maxRecDepth 20000 in
theorem dW_1083 : decode cL_law 1083 = .ok (.iaload, 1) := by decide +kernel
set_option maxRecDepth 20000 in
theorem dW_1084 : decode cL_law 1084 = .ok (.aload_n 0, 1) := by decide +kernel
set_option maxRecDepth 20000 in
theorem dW_1085 : decode cL_law 1085 = .ok (.iload 4, 2) := by decide +kernel
set_option maxRecDepth 20000 in
theorem dW_1087 : decode cL_law 1087 = .ok (.iconst 2, 1) := by decide +kernel
set_option maxRecDepth 20000 in
theorem dW_1088 : decode cL_law 1088 = .ok (.iadd, 1) := by decide +kernel
set_option maxRecDepth 20000 in
theorem dW_1089 : decode cL_law 1089 = .ok (.iaload, 1) := by decide +kernel
set_option maxRecDepth 20000 in
theorem dW_1090 : decode cL_law 1090 = .ok (.ifCond .eq 7, 3) := by decide +kernel
set_option maxRecDepth 20000 in
theorem dW_1093 : decode cL_law 1093 = .ok (.iconst 1, 1) := by decide +kernel
set_option maxRecDepth 20000 in
theorem dW_1094 : decode cL_law 1094 = .ok (.goto 4, 3) := by decide +kernel
set_option maxRecDepth 20000 in
theorem dW_1097 : decode cL_law 1097 = .ok (.iconst 0, 1) := by decide +kernel
set_option maxRecDepth 20000 in
theorem dW_1098 : decode cL_law 1098 = .ok (.invokevirtual 132, 3) := by decide +kernel
set_option maxRecDepth 20000 in
theorem dW_1101 : decode cL_law 1101 = .ok (.pop, 1) := by decide +kernel
set_option maxRecDepth 20000 in
theorem dW_1102 : decode cL_law 1102 = .ok (.goto 499, 3) := by decide +kernel
set_option maxRecDepth 20000 in
theorem dW_1105 : decode cL_law 1105 = .ok (.aload_n 1, 1) := by decide +kernel
set_option maxRecDepth 20000 in
theorem dW_1106 : decode cL_law 1106 = .ok (.aload_n 0, 1) := by decide +kernel
set_option maxRecDepth 20000 in
theorem dW_1107 : decode cL_law 1107 = .ok (.iload 4, 2) := by decide +kernel
set_option maxRecDepth 20000 in
theorem dW_1109 : decode cL_law 1109 = .ok (.iconst 1, 1) := by decide +kernel
set_option maxRecDepth 20000 in
theorem dW_1110 : decode cL_law 1110 = .ok (.iadd, 1) := by decide +kernel
set_option maxRecDepth 20000 in
theorem dW_1111 : decode cL_law 1111 = .ok (.iaload, 1) := by decide +kernel
set_option maxRecDepth 20000 in
theorem dW_1112 : decode cL_law 1112 = .ok (.invokevirtual 133, 3) := by decide +kernel
set_option maxRecDepth 20000 in
theorem dW_1115 : decode cL_law 1115 = .ok (.pop, 1) := by decide +kernel
set_option maxRecDepth 20000 in
theorem dW_1116 : decode cL_law 1116 = .ok (.aload_n 2, 1) := by decide +kernel
set_option maxRecDepth 20000 in
theorem dW_1117 : decode cL_law 1117 = .ok (.aload_n 0, 1) := by decide +kernel
set_option maxRecDepth 20000 in
theorem dW_1118 : decode cL_law 1118 = .ok (.iload 4, 2) := by decide +kernel
set_option maxRecDepth 20000 in
theorem dW_1120 : decode cL_law 1120 = .ok (.iconst 1, 1) := by decide +kernel
set_option maxRecDepth 20000 in
theorem dW_1121 : decode cL_law 1121 = .ok (.iadd, 1) := by decide +kernel
set_option maxRecDepth 20000 in
theorem dW_1122 : decode cL_law 1122 = .ok (.iaload, 1) := by decide +kernel
set_option maxRecDepth 20000 in
theorem dW_1123 : decode cL_law 1123 = .ok (.invokevirtual 136, 3) := by decide +kernel
set_option maxRecDepth 20000 in
theorem dW_1126 : decode cL_law 1126 = .ok (.pop, 1) := by decide +kernel
set_option maxRecDepth 20000 in
theorem dW_1127 : decode cL_law 1127 = .ok (.goto 474, 3) := by decide +kernel
set_option maxRecDepth 20000 in
theorem dW_1130 : decode cL_law 1130 = .ok (.aload_n 1, 1) := by decide +kernel
set_option maxRecDepth 20000 in
theorem dW_1131 : decode cL_law 1131 = .ok (.invokevirtual 137, 3) := by decide +kernel
set_option maxRecDepth 20000 in
theorem dW_1134 : decode cL_law 1134 = .ok (.pop, 1) := by decide +kernel
set_option maxRecDepth 20000 in
theorem dW_1135 : decode cL_law 1135 = .ok (.aload_n 2, 1) := by decide +kernel
set_option maxRecDepth 20000 in
theorem dW_1136 : decode cL_law 1136 = .ok (.invokevirtual 140, 3) := by decide +kernel
set_option maxRecDepth 20000 in
theorem dW_1139 : decode cL_law 1139 = .ok (.pop, 1) := by decide +kernel
set_option maxRecDepth 20000 in
theorem dW_1140 : decode cL_law 1140 = .ok (.goto 461, 3) := by decide +kernel
set_option maxRecDepth 20000 in
theorem dW_1143 : decode cL_law 1143 = .ok (.aload_n 1, 1) := by decide +kernel
set_option maxRecDepth 20000 in
theorem dW_1144 : decode cL_law 1144 = .ok (.aload_n 0, 1) := by decide +kernel
set_option maxRecDepth 20000 in
theorem dW_1145 : decode cL_law 1145 = .ok (.iload 4, 2) := by decide +kernel
set_option maxRecDepth 20000 in
theorem dW_1147 : decode cL_law 1147 = .ok (.iconst 1, 1) := by decide +kernel
set_option maxRecDepth 20000 in
theorem dW_1148 : decode cL_law 1148 = .ok (.iadd, 1) := by decide +kernel
set_option maxRecDepth 20000 in
theorem dW_1149 : decode cL_law 1149 = .ok (.iaload, 1) := by decide +kernel
set_option maxRecDepth 20000 in
theorem dW_1150 : decode cL_law 1150 = .ok (.invokevirtual 141, 3) := by decide +kernel
set_option maxRecDepth 20000 in
theorem dW_1153 : decode cL_law 1153 = .ok (.pop, 1) := by decide +kernel
set_option maxRecDepth 20000 in
theorem dW_1154 : decode cL_law 1154 = .ok (.aload_n 2, 1) := by decide +kernel
set_option maxRecDepth 20000 in
theorem dW_1155 : decode cL_law 1155 = .ok (.aload_n 0, 1) := by decide +kernel
set_option maxRecDepth 20000 in
theorem dW_1156 : decode cL_law 1156 = .ok (.iload 4, 2) := by decide +kernel
set_option maxRecDepth 20000 in
theorem dW_1158 : decode cL_law 1158 = .ok (.iconst 1, 1) := by decide +kernel
set_option maxRecDepth 20000 in
theorem dW_1159 : decode cL_law 1159 = .ok (.iadd, 1) := by decide +kernel
set_option maxRecDepth 20000 in
theorem dW_1160 : decode cL_law 1160 = .ok (.iaload, 1) := by decide +kernel
set_option maxRecDepth 20000 in
theorem dW_1161 : decode cL_law 1161 = .ok (.invokevirtual 144, 3) := by decide +kernel
set_option maxRecDepth 20000 in
theorem dW_1164 : decode cL_law 1164 = .ok (.pop, 1) := by decide +kernel
set_option maxRecDepth 20000 in
theorem dW_1165 : decode cL_law 1165 = .ok (.goto 436, 3) := by decide +kernel
set_option maxRecDepth 20000 in
theorem dW_1168 : decode cL_law 1168 = .ok (.aload_n 1, 1) := by decide +kernel
set_option maxRecDepth 20000 in
theorem dW_1169 : decode cL_law 1169 = .ok (.aload_n 0, 1) := by decide +kernel
set_option maxRecDepth 20000 in
theorem dW_1170 : decode cL_law 1170 = .ok (.iload 4, 2) := by decide +kernel
set_option maxRecDepth 20000 in
theorem dW_1172 : decode cL_law 1172 = .ok (.iconst 1, 1) := by decide +kernel
set_option maxRecDepth 20000 in
theorem dW_1173 : decode cL_law 1173 = .ok (.iadd, 1) := by decide +kernel
set_option maxRecDepth 20000 in
theorem dW_1174 : decode cL_law 1174 = .ok (.iaload, 1) := by decide +kernel
set_option maxRecDepth 20000 in
theorem dW_1175 : decode cL_law 1175 = .ok (.aload_n 0, 1) := by decide +kernel
set_option maxRecDepth 20000 in
theorem dW_1176 : decode cL_law 1176 = .ok (.iload 4, 2) := by decide +kernel
set_option maxRecDepth 20000 in
theorem dW_1178 : decode cL_law 1178 = .ok (.iconst 2, 1) := by decide +kernel
set_option maxRecDepth 20000 in
theorem dW_1179 : decode cL_law 1179 = .ok (.iadd, 1) := by decide +kernel
set_option maxRecDepth 20000 in
theorem dW_1180 : decode cL_law 1180 = .ok (.iaload, 1) := by decide +kernel
set_option maxRecDepth 20000 in
theorem dW_1181 : decode cL_law 1181 = .ok (.invokevirtual 145, 3) := by decide +kernel
set_option maxRecDepth 20000 in
theorem dW_1184 : decode cL_law 1184 = .ok (.pop, 1) := by decide +kernel
set_option maxRecDepth 20000 in
theorem dW_1185 : decode cL_law 1185 = .ok (.aload_n 2, 1) := by decide +kernel
set_option maxRecDepth 20000 in
theorem dW_1186 : decode cL_law 1186 = .ok (.aload_n 0, 1) := by decide +kernel
set_option maxRecDepth 20000 in
theorem dW_1187 : decode cL_law 1187 = .ok (.iload 4, 2) := by decide +kernel
set_option maxRecDepth 20000 in
theorem dW_1189 : decode cL_law 1189 = .ok (.iconst 1, 1) := by decide +kernel
set_option maxRecDepth 20000 in
theorem dW_1190 : decode cL_law 1190 = .ok (.iadd, 1) := by decide +kernel
set_option maxRecDepth 20000 in
theorem dW_1191 : decode cL_law 1191 = .ok (.iaload, 1) := by decide +kernel
set_option maxRecDepth 20000 in
theorem dW_1192 : decode cL_law 1192 = .ok (.aload_n 0, 1) := by decide +kernel
set_option maxRecDepth 20000 in
theorem dW_1193 : decode cL_law 1193 = .ok (.iload 4, 2) := by decide +kernel
set_option maxRecDepth 20000 in
theorem dW_1195 : decode cL_law 1195 = .ok (.iconst 2, 1) := by decide +kernel
set_option maxRecDepth 20000 in
theorem dW_1196 : decode cL_law 1196 = .ok (.iadd, 1) := by decide +kernel
set_option maxRecDepth 20000 in
theorem dW_1197 : decode cL_law 1197 = .ok (.iaload, 1) := by decide +kernel
set_option maxRecDepth 20000 in
theorem dW_1198 : decode cL_law 1198 = .ok (.invokevirtual 148, 3) := by decide +kernel
set_option maxRecDepth 20000 in
theorem dW_1201 : decode cL_law 1201 = .ok (.pop, 1) := by decide +kernel
set_option maxRecDepth 20000 in
theorem dW_1202 : decode cL_law 1202 = .ok (.goto 399, 3) := by decide +kernel
set_option maxRecDepth 20000 in
theorem dW_1205 : decode cL_law 1205 = .ok (.aload_n 1, 1) := by decide +kernel
set_option maxRecDepth 20000 in
theorem dW_1206 : decode cL_law 1206 = .ok (.aload_n 0, 1) := by decide +kernel
set_option maxRecDepth 20000 in
theorem dW_1207 : decode cL_law 1207 = .ok (.iload 4, 2) := by decide +kernel
set_option maxRecDepth 20000 in
theorem dW_1209 : decode cL_law 1209 = .ok (.iconst 1, 1) := by decide +kernel
set_option maxRecDepth 20000 in
theorem dW_1210 : decode cL_law 1210 = .ok (.iadd, 1) := by decide +kernel
set_option maxRecDepth 20000 in
theorem dW_1211 : decode cL_law 1211 = .ok (.iaload, 1) := by decide +kernel
set_option maxRecDepth 20000 in
theorem dW_1212 : decode cL_law 1212 = .ok (.aload_n 0, 1) := by decide +kernel
set_option maxRecDepth 20000 in
theorem dW_1213 : decode cL_law 1213 = .ok (.iload 4, 2) := by decide +kernel
set_option maxRecDepth 20000 in
theorem dW_1215 : decode cL_law 1215 = .ok (.iconst 2, 1) := by decide +kernel
set_option maxRecDepth 20000 in
theorem dW_1216 : decode cL_law 1216 = .ok (.iadd, 1) := by decide +kernel
set_option maxRecDepth 20000 in
theorem dW_1217 : decode cL_law 1217 = .ok (.iaload, 1) := by decide +kernel
set_option maxRecDepth 20000 in
theorem dW_1218 : decode cL_law 1218 = .ok (.invokevirtual 149, 3) := by decide +kernel
set_option maxRecDepth 20000 in
theorem dW_1221 : decode cL_law 1221 = .ok (.pop, 1) := by decide +kernel
set_option maxRecDepth 20000 in
theorem dW_1222 : decode cL_law 1222 = .ok (.aload_n 2, 1) := by decide +kernel
set_option maxRecDepth 20000 in
theorem dW_1223 : decode cL_law 1223 = .ok (.aload_n 0, 1) := by decide +kernel
set_option maxRecDepth 20000 in
theorem dW_1224 : decode cL_law 1224 = .ok (.iload 4, 2) := by decide +kernel
set_option maxRecDepth 20000 in
theorem dW_1226 : decode cL_law 1226 = .ok (.iconst 1, 1) := by decide +kernel
set_option maxRecDepth 20000 in
theorem dW_1227 : decode cL_law 1227 = .ok (.iadd, 1) := by decide +kernel
set_option maxRecDepth 20000 in
theorem dW_1228 : decode cL_law 1228 = .ok (.iaload, 1) := by decide +kernel
set_option maxRecDepth 20000 in
theorem dW_1229 : decode cL_law 1229 = .ok (.aload_n 0, 1) := by decide +kernel
set_option maxRecDepth 20000 in
theorem dW_1230 : decode cL_law 1230 = .ok (.iload 4, 2) := by decide +kernel
set_option maxRecDepth 20000 in
theorem dW_1232 : decode cL_law 1232 = .ok (.iconst 2, 1) := by decide +kernel
set_option maxRecDepth 20000 in
theorem dW_1233 : decode cL_law 1233 = .ok (.iadd, 1) := by decide +kernel
set_option maxRecDepth 20000 in
theorem dW_1234 : decode cL_law 1234 = .ok (.iaload, 1) := by decide +kernel
set_option maxRecDepth 20000 in
theorem dW_1235 : decode cL_law 1235 = .ok (.invokevirtual 152, 3) := by decide +kernel
set_option maxRecDepth 20000 in
theorem dW_1238 : decode cL_law 1238 = .ok (.pop, 1) := by decide +kernel
set_option maxRecDepth 20000 in
theorem dW_1239 : decode cL_law 1239 = .ok (.goto 362, 3) := by decide +kernel
set_option maxRecDepth 20000 in
theorem dW_1242 : decode cL_law 1242 = .ok (.aload_n 1, 1) := by decide +kernel
set_option maxRecDepth 20000 in
theorem dW_1243 : decode cL_law 1243 = .ok (.aload_n 0, 1) := by decide +kernel
set_option maxRecDepth 20000 in
theorem dW_1244 : decode cL_law 1244 = .ok (.iload 4, 2) := by decide +kernel
set_option maxRecDepth 20000 in
theorem dW_1246 : decode cL_law 1246 = .ok (.iconst 1, 1) := by decide +kernel
set_option maxRecDepth 20000 in
theorem dW_1247 : decode cL_law 1247 = .ok (.iadd, 1) := by decide +kernel
set_option maxRecDepth 20000 in
theorem dW_1248 : decode cL_law 1248 = .ok (.iaload, 1) := by decide +kernel
set_option maxRecDepth 20000 in
theorem dW_1249 : decode cL_law 1249 = .ok (.invokevirtual 153, 3) := by decide +kernel
set_option maxRecDepth 20000 in
theorem dW_1252 : decode cL_law 1252 = .ok (.pop, 1) := by decide +kernel
set_option maxRecDepth 20000 in
theorem dW_1253 : decode cL_law 1253 = .ok (.aload_n 2, 1) := by decide +kernel
set_option maxRecDepth 20000 in
theorem dW_1254 : decode cL_law 1254 = .ok (.aload_n 0, 1) := by decide +kernel
set_option maxRecDepth 20000 in
theorem dW_1255 : decode cL_law 1255 = .ok (.iload 4, 2) := by decide +kernel
set_option maxRecDepth 20000 in
theorem dW_1257 : decode cL_law 1257 = .ok (.iconst 1, 1) := by decide +kernel
set_option maxRecDepth 20000 in
theorem dW_1258 : decode cL_law 1258 = .ok (.iadd, 1) := by decide +kernel
set_option maxRecDepth 20000 in
theorem dW_1259 : decode cL_law 1259 = .ok (.iaload, 1) := by decide +kernel
set_option maxRecDepth 20000 in
theorem dW_1260 : decode cL_law 1260 = .ok (.invokevirtual 156, 3) := by decide +kernel
set_option maxRecDepth 20000 in
theorem dW_1263 : decode cL_law 1263 = .ok (.pop, 1) := by decide +kernel
set_option maxRecDepth 20000 in
theorem dW_1264 : decode cL_law 1264 = .ok (.goto 337, 3) := by decide +kernel
set_option maxRecDepth 20000 in
theorem dW_1267 : decode cL_law 1267 = .ok (.aload_n 1, 1) := by decide +kernel
set_option maxRecDepth 20000 in
theorem dW_1268 : decode cL_law 1268 = .ok (.aload_n 0, 1) := by decide +kernel
set_option maxRecDepth 20000 in
theorem dW_1269 : decode cL_law 1269 = .ok (.iload 4, 2) := by decide +kernel
set_option maxRecDepth 20000 in
theorem dW_1271 : decode cL_law 1271 = .ok (.iconst 1, 1) := by decide +kernel
set_option maxRecDepth 20000 in
theorem dW_1272 : decode cL_law 1272 = .ok (.iadd, 1) := by decide +kernel
set_option maxRecDepth 20000 in
theorem dW_1273 : decode cL_law 1273 = .ok (.iaload, 1) := by decide +kernel
set_option maxRecDepth 20000 in
theorem dW_1274 : decode cL_law 1274 = .ok (.invokevirtual 157, 3) := by decide +kernel
set_option maxRecDepth 20000 in
theorem dW_1277 : decode cL_law 1277 = .ok (.pop, 1) := by decide +kernel
set_option maxRecDepth 20000 in
theorem dW_1278 : decode cL_law 1278 = .ok (.aload_n 2, 1) := by decide +kernel
set_option maxRecDepth 20000 in
theorem dW_1279 : decode cL_law 1279 = .ok (.aload_n 0, 1) := by decide +kernel
set_option maxRecDepth 20000 in
theorem dW_1280 : decode cL_law 1280 = .ok (.iload 4, 2) := by decide +kernel
set_option maxRecDepth 20000 in
theorem dW_1282 : decode cL_law 1282 = .ok (.iconst 1, 1) := by decide +kernel
set_option maxRecDepth 20000 in
theorem dW_1283 : decode cL_law 1283 = .ok (.iadd, 1) := by decide +kernel
set_option maxRecDepth 20000 in
theorem dW_1284 : decode cL_law 1284 = .ok (.iaload, 1) := by decide +kernel
set_option maxRecDepth 20000 in
theorem dW_1285 : decode cL_law 1285 = .ok (.invokevirtual 160, 3) := by decide +kernel
set_option maxRecDepth 20000 in
theorem dW_1288 : decode cL_law 1288 = .ok (.pop, 1) := by decide +kernel
set_option maxRecDepth 20000 in
theorem dW_1289 : decode cL_law 1289 = .ok (.goto 312, 3) := by decide +kernel
set_option maxRecDepth 20000 in
theorem dW_1292 : decode cL_law 1292 = .ok (.aload_n 1, 1) := by decide +kernel
set_option maxRecDepth 20000 in
theorem dW_1293 : decode cL_law 1293 = .ok (.aload_n 0, 1) := by decide +kernel
set_option maxRecDepth 20000 in
theorem dW_1294 : decode cL_law 1294 = .ok (.iload 4, 2) := by decide +kernel
set_option maxRecDepth 20000 in
theorem dW_1296 : decode cL_law 1296 = .ok (.iconst 1, 1) := by decide +kernel
set_option maxRecDepth 20000 in
theorem dW_1297 : decode cL_law 1297 = .ok (.iadd, 1) := by decide +kernel
set_option maxRecDepth 20000 in
theorem dW_1298 : decode cL_law 1298 = .ok (.iaload, 1) := by decide +kernel
set_option maxRecDepth 20000 in
theorem dW_1299 : decode cL_law 1299 = .ok (.aload_n 0, 1) := by decide +kernel
set_option maxRecDepth 20000 in
theorem dW_1300 : decode cL_law 1300 = .ok (.iload 4, 2) := by decide +kernel
set_option maxRecDepth 20000 in
theorem dW_1302 : decode cL_law 1302 = .ok (.iconst 2, 1) := by decide +kernel
set_option maxRecDepth 20000 in
theorem dW_1303 : decode cL_law 1303 = .ok (.iadd, 1) := by decide +kernel
set_option maxRecDepth 20000 in
theorem dW_1304 : decode cL_law 1304 = .ok (.iaload, 1) := by decide +kernel
set_option maxRecDepth 20000 in
theorem dW_1305 : decode cL_law 1305 = .ok (.aload_n 0, 1) := by decide +kernel
set_option maxRecDepth 20000 in
theorem dW_1306 : decode cL_law 1306 = .ok (.iload 4, 2) := by decide +kernel
set_option maxRecDepth 20000 in
theorem dW_1308 : decode cL_law 1308 = .ok (.iconst 3, 1) := by decide +kernel
set_option maxRecDepth 20000 in
theorem dW_1309 : decode cL_law 1309 = .ok (.iadd, 1) := by decide +kernel
set_option maxRecDepth 20000 in
theorem dW_1310 : decode cL_law 1310 = .ok (.iaload, 1) := by decide +kernel
set_option maxRecDepth 20000 in
theorem dW_1311 : decode cL_law 1311 = .ok (.aload_n 0, 1) := by decide +kernel
set_option maxRecDepth 20000 in
theorem dW_1312 : decode cL_law 1312 = .ok (.iload 4, 2) := by decide +kernel
set_option maxRecDepth 20000 in
theorem dW_1314 : decode cL_law 1314 = .ok (.iconst 4, 1) := by decide +kernel
set_option maxRecDepth 20000 in
theorem dW_1315 : decode cL_law 1315 = .ok (.iadd, 1) := by decide +kernel
set_option maxRecDepth 20000 in
theorem dW_1316 : decode cL_law 1316 = .ok (.iaload, 1) := by decide +kernel
set_option maxRecDepth 20000 in
theorem dW_1317 : decode cL_law 1317 = .ok (.aload_n 0, 1) := by decide +kernel
set_option maxRecDepth 20000 in
theorem dW_1318 : decode cL_law 1318 = .ok (.iload 4, 2) := by decide +kernel
set_option maxRecDepth 20000 in
theorem dW_1320 : decode cL_law 1320 = .ok (.iconst 5, 1) := by decide +kernel
set_option maxRecDepth 20000 in
theorem dW_1321 : decode cL_law 1321 = .ok (.iadd, 1) := by decide +kernel
set_option maxRecDepth 20000 in
theorem dW_1322 : decode cL_law 1322 = .ok (.iaload, 1) := by decide +kernel
set_option maxRecDepth 20000 in
theorem dW_1323 : decode cL_law 1323 = .ok (.invokevirtual 161, 3) := by decide +kernel
set_option maxRecDepth 20000 in
theorem dW_1326 : decode cL_law 1326 = .ok (.pop, 1) := by decide +kernel
set_option maxRecDepth 20000 in
theorem dW_1327 : decode cL_law 1327 = .ok (.aload_n 2, 1) := by decide +kernel
set_option maxRecDepth 20000 in
theorem dW_1328 : decode cL_law 1328 = .ok (.aload_n 0, 1) := by decide +kernel
set_option maxRecDepth 20000 in
theorem dW_1329 : decode cL_law 1329 = .ok (.iload 4, 2) := by decide +kernel
set_option maxRecDepth 20000 in
theorem dW_1331 : decode cL_law 1331 = .ok (.iconst 1, 1) := by decide +kernel
set_option maxRecDepth 20000 in
theorem dW_1332 : decode cL_law 1332 = .ok (.iadd, 1) := by decide +kernel
set_option maxRecDepth 20000 in
theorem dW_1333 : decode cL_law 1333 = .ok (.iaload, 1) := by decide +kernel
set_option maxRecDepth 20000 in
theorem dW_1334 : decode cL_law 1334 = .ok (.aload_n 0, 1) := by decide +kernel
set_option maxRecDepth 20000 in
theorem dW_1335 : decode cL_law 1335 = .ok (.iload 4, 2) := by decide +kernel
set_option maxRecDepth 20000 in
theorem dW_1337 : decode cL_law 1337 = .ok (.iconst 2, 1) := by decide +kernel
set_option maxRecDepth 20000 in
theorem dW_1338 : decode cL_law 1338 = .ok (.iadd, 1) := by decide +kernel
set_option maxRecDepth 20000 in
theorem dW_1339 : decode cL_law 1339 = .ok (.iaload, 1) := by decide +kernel
set_option maxRecDepth 20000 in
theorem dW_1340 : decode cL_law 1340 = .ok (.aload_n 0, 1) := by decide +kernel
set_option maxRecDepth 20000 in
theorem dW_1341 : decode cL_law 1341 = .ok (.iload 4, 2) := by decide +kernel
set_option maxRecDepth 20000 in
theorem dW_1343 : decode cL_law 1343 = .ok (.iconst 3, 1) := by decide +kernel
set_option maxRecDepth 20000 in
theorem dW_1344 : decode cL_law 1344 = .ok (.iadd, 1) := by decide +kernel
set_option maxRecDepth 20000 in
theorem dW_1345 : decode cL_law 1345 = .ok (.iaload, 1) := by decide +kernel
set_option maxRecDepth 20000 in
theorem dW_1346 : decode cL_law 1346 = .ok (.aload_n 0, 1) := by decide +kernel
set_option maxRecDepth 20000 in
theorem dW_1347 : decode cL_law 1347 = .ok (.iload 4, 2) := by decide +kernel
set_option maxRecDepth 20000 in
theorem dW_1349 : decode cL_law 1349 = .ok (.iconst 4, 1) := by decide +kernel
set_option maxRecDepth 20000 in
theorem dW_1350 : decode cL_law 1350 = .ok (.iadd, 1) := by decide +kernel
set_option maxRecDepth 20000 in
theorem dW_1351 : decode cL_law 1351 = .ok (.iaload, 1) := by decide +kernel
set_option maxRecDepth 20000 in
theorem dW_1352 : decode cL_law 1352 = .ok (.aload_n 0, 1) := by decide +kernel
set_option maxRecDepth 20000 in
theorem dW_1353 : decode cL_law 1353 = .ok (.iload 4, 2) := by decide +kernel
set_option maxRecDepth 20000 in
theorem dW_1355 : decode cL_law 1355 = .ok (.iconst 5, 1) := by decide +kernel
set_option maxRecDepth 20000 in
theorem dW_1356 : decode cL_law 1356 = .ok (.iadd, 1) := by decide +kernel
set_option maxRecDepth 20000 in
theorem dW_1357 : decode cL_law 1357 = .ok (.iaload, 1) := by decide +kernel
set_option maxRecDepth 20000 in
theorem dW_1358 : decode cL_law 1358 = .ok (.invokevirtual 164, 3) := by decide +kernel
set_option maxRecDepth 20000 in
theorem dW_1361 : decode cL_law 1361 = .ok (.pop, 1) := by decide +kernel
set_option maxRecDepth 20000 in
theorem dW_1362 : decode cL_law 1362 = .ok (.goto 239, 3) := by decide +kernel
set_option maxRecDepth 20000 in
theorem dW_1365 : decode cL_law 1365 = .ok (.aload_n 1, 1) := by decide +kernel
set_option maxRecDepth 20000 in
theorem dW_1366 : decode cL_law 1366 = .ok (.aload_n 0, 1) := by decide +kernel
set_option maxRecDepth 20000 in
theorem dW_1367 : decode cL_law 1367 = .ok (.iload 4, 2) := by decide +kernel
set_option maxRecDepth 20000 in
theorem dW_1369 : decode cL_law 1369 = .ok (.iconst 1, 1) := by decide +kernel
set_option maxRecDepth 20000 in
theorem dW_1370 : decode cL_law 1370 = .ok (.iadd, 1) := by decide +kernel
set_option maxRecDepth 20000 in
theorem dW_1371 : decode cL_law 1371 = .ok (.iaload, 1) := by decide +kernel
set_option maxRecDepth 20000 in
theorem dW_1372 : decode cL_law 1372 = .ok (.aload_n 0, 1) := by decide +kernel
set_option maxRecDepth 20000 in
theorem dW_1373 : decode cL_law 1373 = .ok (.iload 4, 2) := by decide +kernel
set_option maxRecDepth 20000 in
theorem dW_1375 : decode cL_law 1375 = .ok (.iconst 2, 1) := by decide +kernel
set_option maxRecDepth 20000 in
theorem dW_1376 : decode cL_law 1376 = .ok (.iadd, 1) := by decide +kernel
set_option maxRecDepth 20000 in
theorem dW_1377 : decode cL_law 1377 = .ok (.iaload, 1) := by decide +kernel
set_option maxRecDepth 20000 in
theorem dW_1378 : decode cL_law 1378 = .ok (.aload_n 0, 1) := by decide +kernel
set_option maxRecDepth 20000 in
theorem dW_1379 : decode cL_law 1379 = .ok (.iload 4, 2) := by decide +kernel
set_option maxRecDepth 20000 in
theorem dW_1381 : decode cL_law 1381 = .ok (.iconst 3, 1) := by decide +kernel
set_option maxRecDepth 20000 in
theorem dW_1382 : decode cL_law 1382 = .ok (.iadd, 1) := by decide +kernel
set_option maxRecDepth 20000 in
theorem dW_1383 : decode cL_law 1383 = .ok (.iaload, 1) := by decide +kernel
set_option maxRecDepth 20000 in
theorem dW_1384 : decode cL_law 1384 = .ok (.invokevirtual 165, 3) := by decide +kernel
set_option maxRecDepth 20000 in
theorem dW_1387 : decode cL_law 1387 = .ok (.pop, 1) := by decide +kernel
set_option maxRecDepth 20000 in
theorem dW_1388 : decode cL_law 1388 = .ok (.aload_n 2, 1) := by decide +kernel
set_option maxRecDepth 20000 in
theorem dW_1389 : decode cL_law 1389 = .ok (.aload_n 0, 1) := by decide +kernel
set_option maxRecDepth 20000 in
theorem dW_1390 : decode cL_law 1390 = .ok (.iload 4, 2) := by decide +kernel
set_option maxRecDepth 20000 in
theorem dW_1392 : decode cL_law 1392 = .ok (.iconst 1, 1) := by decide +kernel
set_option maxRecDepth 20000 in
theorem dW_1393 : decode cL_law 1393 = .ok (.iadd, 1) := by decide +kernel
set_option maxRecDepth 20000 in
theorem dW_1394 : decode cL_law 1394 = .ok (.iaload, 1) := by decide +kernel
set_option maxRecDepth 20000 in
theorem dW_1395 : decode cL_law 1395 = .ok (.aload_n 0, 1) := by decide +kernel
set_option maxRecDepth 20000 in
theorem dW_1396 : decode cL_law 1396 = .ok (.iload 4, 2) := by decide +kernel
set_option maxRecDepth 20000 in
theorem dW_1398 : decode cL_law 1398 = .ok (.iconst 2, 1) := by decide +kernel
set_option maxRecDepth 20000 in
theorem dW_1399 : decode cL_law 1399 = .ok (.iadd, 1) := by decide +kernel
set_option maxRecDepth 20000 in
theorem dW_1400 : decode cL_law 1400 = .ok (.iaload, 1) := by decide +kernel
set_option maxRecDepth 20000 in
theorem dW_1401 : decode cL_law 1401 = .ok (.aload_n 0, 1) := by decide +kernel
set_option maxRecDepth 20000 in
theorem dW_1402 : decode cL_law 1402 = .ok (.iload 4, 2) := by decide +kernel
set_option maxRecDepth 20000 in
theorem dW_1404 : decode cL_law 1404 = .ok (.iconst 3, 1) := by decide +kernel
set_option maxRecDepth 20000 in
theorem dW_1405 : decode cL_law 1405 = .ok (.iadd, 1) := by decide +kernel
set_option maxRecDepth 20000 in
theorem dW_1406 : decode cL_law 1406 = .ok (.iaload, 1) := by decide +kernel
set_option maxRecDepth 20000 in
theorem dW_1407 : decode cL_law 1407 = .ok (.invokevirtual 169, 3) := by decide +kernel
set_option maxRecDepth 20000 in
theorem dW_1410 : decode cL_law 1410 = .ok (.pop, 1) := by decide +kernel
set_option maxRecDepth 20000 in
theorem dW_1411 : decode cL_law 1411 = .ok (.goto 190, 3) := by decide +kernel
set_option maxRecDepth 20000 in
theorem dW_1414 : decode cL_law 1414 = .ok (.aload_n 1, 1) := by decide +kernel
set_option maxRecDepth 20000 in
theorem dW_1415 : decode cL_law 1415 = .ok (.aload_n 0, 1) := by decide +kernel
set_option maxRecDepth 20000 in
theorem dW_1416 : decode cL_law 1416 = .ok (.iload 4, 2) := by decide +kernel
set_option maxRecDepth 20000 in
theorem dW_1418 : decode cL_law 1418 = .ok (.iconst 1, 1) := by decide +kernel
set_option maxRecDepth 20000 in
theorem dW_1419 : decode cL_law 1419 = .ok (.iadd, 1) := by decide +kernel
set_option maxRecDepth 20000 in
theorem dW_1420 : decode cL_law 1420 = .ok (.iaload, 1) := by decide +kernel
set_option maxRecDepth 20000 in
theorem dW_1421 : decode cL_law 1421 = .ok (.aload_n 0, 1) := by decide +kernel
set_option maxRecDepth 20000 in
theorem dW_1422 : decode cL_law 1422 = .ok (.iload 4, 2) := by decide +kernel
set_option maxRecDepth 20000 in
theorem dW_1424 : decode cL_law 1424 = .ok (.iconst 2, 1) := by decide +kernel
set_option maxRecDepth 20000 in
theorem dW_1425 : decode cL_law 1425 = .ok (.iadd, 1) := by decide +kernel
set_option maxRecDepth 20000 in
theorem dW_1426 : decode cL_law 1426 = .ok (.iaload, 1) := by decide +kernel
set_option maxRecDepth 20000 in
theorem dW_1427 : decode cL_law 1427 = .ok (.invokevirtual 170, 3) := by decide +kernel
set_option maxRecDepth 20000 in
theorem dW_1430 : decode cL_law 1430 = .ok (.pop, 1) := by decide +kernel
set_option maxRecDepth 20000 in
theorem dW_1431 : decode cL_law 1431 = .ok (.aload_n 2, 1) := by decide +kernel
set_option maxRecDepth 20000 in
theorem dW_1432 : decode cL_law 1432 = .ok (.aload_n 0, 1) := by decide +kernel
set_option maxRecDepth 20000 in
theorem dW_1433 : decode cL_law 1433 = .ok (.iload 4, 2) := by decide +kernel
set_option maxRecDepth 20000 in
theorem dW_1435 : decode cL_law 1435 = .ok (.iconst 1, 1) := by decide +kernel
set_option maxRecDepth 20000 in
theorem dW_1436 : decode cL_law 1436 = .ok (.iadd, 1) := by decide +kernel
set_option maxRecDepth 20000 in
theorem dW_1437 : decode cL_law 1437 = .ok (.iaload, 1) := by decide +kernel
set_option maxRecDepth 20000 in
theorem dW_1438 : decode cL_law 1438 = .ok (.aload_n 0, 1) := by decide +kernel
set_option maxRecDepth 20000 in
theorem dW_1439 : decode cL_law 1439 = .ok (.iload 4, 2) := by decide +kernel
set_option maxRecDepth 20000 in
theorem dW_1441 : decode cL_law 1441 = .ok (.iconst 2, 1) := by decide +kernel
set_option maxRecDepth 20000 in
theorem dW_1442 : decode cL_law 1442 = .ok (.iadd, 1) := by decide +kernel
set_option maxRecDepth 20000 in
theorem dW_1443 : decode cL_law 1443 = .ok (.iaload, 1) := by decide +kernel
set_option maxRecDepth 20000 in
theorem dW_1444 : decode cL_law 1444 = .ok (.invokevirtual 173, 3) := by decide +kernel
set_option maxRecDepth 20000 in
theorem dW_1447 : decode cL_law 1447 = .ok (.pop, 1) := by decide +kernel
set_option maxRecDepth 20000 in
theorem dW_1448 : decode cL_law 1448 = .ok (.goto 153, 3) := by decide +kernel
set_option maxRecDepth 20000 in
theorem dW_1451 : decode cL_law 1451 = .ok (.aload_n 1, 1) := by decide +kernel
set_option maxRecDepth 20000 in
theorem dW_1452 : decode cL_law 1452 = .ok (.aload_n 0, 1) := by decide +kernel
set_option maxRecDepth 20000 in
theorem dW_1453 : decode cL_law 1453 = .ok (.iload 4, 2) := by decide +kernel
set_option maxRecDepth 20000 in
theorem dW_1455 : decode cL_law 1455 = .ok (.iconst 1, 1) := by decide +kernel
set_option maxRecDepth 20000 in
theorem dW_1456 : decode cL_law 1456 = .ok (.iadd, 1) := by decide +kernel
set_option maxRecDepth 20000 in
theorem dW_1457 : decode cL_law 1457 = .ok (.iaload, 1) := by decide +kernel
set_option maxRecDepth 20000 in
theorem dW_1458 : decode cL_law 1458 = .ok (.aload_n 0, 1) := by decide +kernel
set_option maxRecDepth 20000 in
theorem dW_1459 : decode cL_law 1459 = .ok (.iload 4, 2) := by decide +kernel
set_option maxRecDepth 20000 in
theorem dW_1461 : decode cL_law 1461 = .ok (.iconst 2, 1) := by decide +kernel
set_option maxRecDepth 20000 in
theorem dW_1462 : decode cL_law 1462 = .ok (.iadd, 1) := by decide +kernel
set_option maxRecDepth 20000 in
theorem dW_1463 : decode cL_law 1463 = .ok (.iaload, 1) := by decide +kernel
set_option maxRecDepth 20000 in
theorem dW_1464 : decode cL_law 1464 = .ok (.invokevirtual 174, 3) := by decide +kernel
set_option maxRecDepth 20000 in
theorem dW_1467 : decode cL_law 1467 = .ok (.pop, 1) := by decide +kernel
set_option maxRecDepth 20000 in
theorem dW_1468 : decode cL_law 1468 = .ok (.aload_n 2, 1) := by decide +kernel
set_option maxRecDepth 20000 in
theorem dW_1469 : decode cL_law 1469 = .ok (.aload_n 0, 1) := by decide +kernel
set_option maxRecDepth 20000 in
theorem dW_1470 : decode cL_law 1470 = .ok (.iload 4, 2) := by decide +kernel
set_option maxRecDepth 20000 in
theorem dW_1472 : decode cL_law 1472 = .ok (.iconst 1, 1) := by decide +kernel
set_option maxRecDepth 20000 in
theorem dW_1473 : decode cL_law 1473 = .ok (.iadd, 1) := by decide +kernel
set_option maxRecDepth 20000 in
theorem dW_1474 : decode cL_law 1474 = .ok (.iaload, 1) := by decide +kernel
set_option maxRecDepth 20000 in
theorem dW_1475 : decode cL_law 1475 = .ok (.aload_n 0, 1) := by decide +kernel
set_option maxRecDepth 20000 in
theorem dW_1476 : decode cL_law 1476 = .ok (.iload 4, 2) := by decide +kernel
set_option maxRecDepth 20000 in
theorem dW_1478 : decode cL_law 1478 = .ok (.iconst 2, 1) := by decide +kernel
set_option maxRecDepth 20000 in
theorem dW_1479 : decode cL_law 1479 = .ok (.iadd, 1) := by decide +kernel
set_option maxRecDepth 20000 in
theorem dW_1480 : decode cL_law 1480 = .ok (.iaload, 1) := by decide +kernel
set_option maxRecDepth 20000 in
theorem dW_1481 : decode cL_law 1481 = .ok (.invokevirtual 177, 3) := by decide +kernel
set_option maxRecDepth 20000 in
theorem dW_1484 : decode cL_law 1484 = .ok (.pop, 1) := by decide +kernel
set_option maxRecDepth 20000 in
theorem dW_1485 : decode cL_law 1485 = .ok (.goto 116, 3) := by decide +kernel
set_option maxRecDepth 20000 in
theorem dW_1488 : decode cL_law 1488 = .ok (.aload_n 1, 1) := by decide +kernel
set_option maxRecDepth 20000 in
theorem dW_1489 : decode cL_law 1489 = .ok (.aload_n 0, 1) := by decide +kernel
set_option maxRecDepth 20000 in
theorem dW_1490 : decode cL_law 1490 = .ok (.iload 4, 2) := by decide +kernel
set_option maxRecDepth 20000 in
theorem dW_1492 : decode cL_law 1492 = .ok (.iconst 1, 1) := by decide +kernel
set_option maxRecDepth 20000 in
theorem dW_1493 : decode cL_law 1493 = .ok (.iadd, 1) := by decide +kernel
set_option maxRecDepth 20000 in
theorem dW_1494 : decode cL_law 1494 = .ok (.iaload, 1) := by decide +kernel
set_option maxRecDepth 20000 in
theorem dW_1495 : decode cL_law 1495 = .ok (.invokevirtual 178, 3) := by decide +kernel
set_option maxRecDepth 20000 in
theorem dW_1498 : decode cL_law 1498 = .ok (.pop, 1) := by decide +kernel
set_option maxRecDepth 20000 in
theorem dW_1499 : decode cL_law 1499 = .ok (.aload_n 2, 1) := by decide +kernel
set_option maxRecDepth 20000 in
theorem dW_1500 : decode cL_law 1500 = .ok (.aload_n 0, 1) := by decide +kernel
set_option maxRecDepth 20000 in
theorem dW_1501 : decode cL_law 1501 = .ok (.iload 4, 2) := by decide +kernel
set_option maxRecDepth 20000 in
theorem dW_1503 : decode cL_law 1503 = .ok (.iconst 1, 1) := by decide +kernel
set_option maxRecDepth 20000 in
theorem dW_1504 : decode cL_law 1504 = .ok (.iadd, 1) := by decide +kernel
set_option maxRecDepth 20000 in
theorem dW_1505 : decode cL_law 1505 = .ok (.iaload, 1) := by decide +kernel
set_option maxRecDepth 20000 in
theorem dW_1506 : decode cL_law 1506 = .ok (.invokevirtual 181, 3) := by decide +kernel
set_option maxRecDepth 20000 in
theorem dW_1509 : decode cL_law 1509 = .ok (.pop, 1) := by decide +kernel
set_option maxRecDepth 20000 in
theorem dW_1510 : decode cL_law 1510 = .ok (.goto 91, 3) := by decide +kernel
set_option maxRecDepth 20000 in
theorem dW_1513 : decode cL_law 1513 = .ok (.aload_n 1, 1) := by decide +kernel
set_option maxRecDepth 20000 in
theorem dW_1514 : decode cL_law 1514 = .ok (.aload_n 0, 1) := by decide +kernel
set_option maxRecDepth 20000 in
theorem dW_1515 : decode cL_law 1515 = .ok (.iload 4, 2) := by decide +kernel
set_option maxRecDepth 20000 in
theorem dW_1517 : decode cL_law 1517 = .ok (.iconst 1, 1) := by decide +kernel
set_option maxRecDepth 20000 in
theorem dW_1518 : decode cL_law 1518 = .ok (.iadd, 1) := by decide +kernel
set_option maxRecDepth 20000 in
theorem dW_1519 : decode cL_law 1519 = .ok (.iaload, 1) := by decide +kernel
set_option maxRecDepth 20000 in
theorem dW_1520 : decode cL_law 1520 = .ok (.aload_n 0, 1) := by decide +kernel
set_option maxRecDepth 20000 in
theorem dW_1521 : decode cL_law 1521 = .ok (.iload 4, 2) := by decide +kernel
set_option maxRecDepth 20000 in
theorem dW_1523 : decode cL_law 1523 = .ok (.iconst 2, 1) := by decide +kernel
set_option maxRecDepth 20000 in
theorem dW_1524 : decode cL_law 1524 = .ok (.iadd, 1) := by decide +kernel
set_option maxRecDepth 20000 in
theorem dW_1525 : decode cL_law 1525 = .ok (.iaload, 1) := by decide +kernel
set_option maxRecDepth 20000 in
theorem dW_1526 : decode cL_law 1526 = .ok (.invokevirtual 182, 3) := by decide +kernel
set_option maxRecDepth 20000 in
theorem dW_1529 : decode cL_law 1529 = .ok (.pop, 1) := by decide +kernel
set_option maxRecDepth 20000 in
theorem dW_1530 : decode cL_law 1530 = .ok (.aload_n 2, 1) := by decide +kernel
set_option maxRecDepth 20000 in
theorem dW_1531 : decode cL_law 1531 = .ok (.aload_n 0, 1) := by decide +kernel
set_option maxRecDepth 20000 in
theorem dW_1532 : decode cL_law 1532 = .ok (.iload 4, 2) := by decide +kernel
set_option maxRecDepth 20000 in
theorem dW_1534 : decode cL_law 1534 = .ok (.iconst 1, 1) := by decide +kernel
set_option maxRecDepth 20000 in
theorem dW_1535 : decode cL_law 1535 = .ok (.iadd, 1) := by decide +kernel
set_option maxRecDepth 20000 in
theorem dW_1536 : decode cL_law 1536 = .ok (.iaload, 1) := by decide +kernel
set_option maxRecDepth 20000 in
theorem dW_1537 : decode cL_law 1537 = .ok (.aload_n 0, 1) := by decide +kernel
set_option maxRecDepth 20000 in
theorem dW_1538 : decode cL_law 1538 = .ok (.iload 4, 2) := by decide +kernel
set_option maxRecDepth 20000 in
theorem dW_1540 : decode cL_law 1540 = .ok (.iconst 2, 1) := by decide +kernel
set_option maxRecDepth 20000 in
theorem dW_1541 : decode cL_law 1541 = .ok (.iadd, 1) := by decide +kernel
set_option maxRecDepth 20000 in
theorem dW_1542 : decode cL_law 1542 = .ok (.iaload, 1) := by decide +kernel
set_option maxRecDepth 20000 in
theorem dW_1543 : decode cL_law 1543 = .ok (.invokevirtual 185, 3) := by decide +kernel
set_option maxRecDepth 20000 in
theorem dW_1546 : decode cL_law 1546 = .ok (.pop, 1) := by decide +kernel
set_option maxRecDepth 20000 in
theorem dW_1547 : decode cL_law 1547 = .ok (.goto 54, 3) := by decide +kernel
set_option maxRecDepth 20000 in
theorem dW_1550 : decode cL_law 1550 = .ok (.aload_n 1, 1) := by decide +kernel
set_option maxRecDepth 20000 in
theorem dW_1551 : decode cL_law 1551 = .ok (.invokevirtual 186, 3) := by decide +kernel
set_option maxRecDepth 20000 in
theorem dW_1554 : decode cL_law 1554 = .ok (.pop, 1) := by decide +kernel
set_option maxRecDepth 20000 in
theorem dW_1555 : decode cL_law 1555 = .ok (.aload_n 2, 1) := by decide +kernel
set_option maxRecDepth 20000 in
theorem dW_1556 : decode cL_law 1556 = .ok (.invokevirtual 189, 3) := by decide +kernel
set_option maxRecDepth 20000 in
theorem dW_1559 : decode cL_law 1559 = .ok (.pop, 1) := by decide +kernel
set_option maxRecDepth 20000 in
theorem dW_1560 : decode cL_law 1560 = .ok (.goto 41, 3) := by decide +kernel
set_option maxRecDepth 20000 in
theorem dW_1563 : decode cL_law 1563 = .ok (.aload_n 1, 1) := by decide +kernel
set_option maxRecDepth 20000 in
theorem dW_1564 : decode cL_law 1564 = .ok (.invokevirtual 190, 3) := by decide +kernel
set_option maxRecDepth 20000 in
theorem dW_1567 : decode cL_law 1567 = .ok (.pop, 1) := by decide +kernel
set_option maxRecDepth 20000 in
theorem dW_1568 : decode cL_law 1568 = .ok (.aload_n 2, 1) := by decide +kernel
set_option maxRecDepth 20000 in
theorem dW_1569 : decode cL_law 1569 = .ok (.invokevirtual 193, 3) := by decide +kernel
set_option maxRecDepth 20000 in
theorem dW_1572 : decode cL_law 1572 = .ok (.pop, 1) := by decide +kernel
set_option maxRecDepth 20000 in
theorem dW_1573 : decode cL_law 1573 = .ok (.goto 28, 3) := by decide +kernel
set_option maxRecDepth 20000 in
theorem dW_1576 : decode cL_law 1576 = .ok (.aload_n 1, 1) := by decide +kernel
set_option maxRecDepth 20000 in
theorem dW_1577 : decode cL_law 1577 = .ok (.aload_n 0, 1) := by decide +kernel
set_option maxRecDepth 20000 in
theorem dW_1578 : decode cL_law 1578 = .ok (.iload 4, 2) := by decide +kernel
set_option maxRecDepth 20000 in
theorem dW_1580 : decode cL_law 1580 = .ok (.iconst 1, 1) := by decide +kernel
set_option maxRecDepth 20000 in
theorem dW_1581 : decode cL_law 1581 = .ok (.iadd, 1) := by decide +kernel
set_option maxRecDepth 20000 in
theorem dW_1582 : decode cL_law 1582 = .ok (.iaload, 1) := by decide +kernel
set_option maxRecDepth 20000 in
theorem dW_1583 : decode cL_law 1583 = .ok (.invokevirtual 194, 3) := by decide +kernel
set_option maxRecDepth 20000 in
theorem dW_1586 : decode cL_law 1586 = .ok (.pop, 1) := by decide +kernel
set_option maxRecDepth 20000 in
theorem dW_1587 : decode cL_law 1587 = .ok (.aload_n 2, 1) := by decide +kernel
set_option maxRecDepth 20000 in
theorem dW_1588 : decode cL_law 1588 = .ok (.aload_n 0, 1) := by decide +kernel
set_option maxRecDepth 20000 in
theorem dW_1589 : decode cL_law 1589 = .ok (.iload 4, 2) := by decide +kernel
set_option maxRecDepth 20000 in
theorem dW_1591 : decode cL_law 1591 = .ok (.iconst 1, 1) := by decide +kernel
set_option maxRecDepth 20000 in
theorem dW_1592 : decode cL_law 1592 = .ok (.iadd, 1) := by decide +kernel
set_option maxRecDepth 20000 in
theorem dW_1593 : decode cL_law 1593 = .ok (.iaload, 1) := by decide +kernel
set_option maxRecDepth 20000 in
theorem dW_1594 : decode cL_law 1594 = .ok (.invokevirtual 197, 3) := by decide +kernel
set_option maxRecDepth 20000 in
theorem dW_1597 : decode cL_law 1597 = .ok (.pop, 1) := by decide +kernel
set_option maxRecDepth 20000 in
theorem dW_1598 : decode cL_law 1598 = .ok (.goto 3, 3) := by decide +kernel
section CASES
variable {p : Program} {l : Launch} {e : Env} {s : State} {mid : MethodId} {below : List Frame} {meth : Method} {c : Code} {b L : Nat} {xs : Nat → Int32}
variable {dC : Nat → ClassId} {dI : Nat → Nat → Nat} {cA : Nat → ClassId} {q sv : Nat → Nat} {qo : Nat} {cells slots : Nat} {Q : State → Prop} {ls : Array Slot} {H : Heap} {locs : List Loc} {x : xM} {i : Nat}
theorem bo_any {y : Int32} (h : y = 0 ∨ y = 1) : aH (fun _ => 0) (.int y) (aI 0 1) := Or.inr (Or.inl ⟨rfl, y, rfl, by rcases h with h | h <;> rw [h] <;> decide, trivial⟩)
set_option maxHeartbeats 2000000 in
theorem lk_0 (C : lCx p l s mid meth c b L xs dC dI cA q sv qo) (hL : L ≤ 3072) (hi : i + 6 ≤ L) (hls : lv_has ls 7 (lvL b q qo i)) (hst : lSt s dC dI cA q qo x H locs) (hv : Inv x) (hcs : cells ≤ 601024 ∧ slots ≤ 7293033) (kk : ∀ (x' : xM) (H1 : Heap) (locs1 : List Loc), Inv x' → lSt s dC dI cA q qo x' H1 locs1 → W p l e room_1 s mid #[Value.ref b] below meth c H1 locs1 cells slots Q (F0 mid 1601 ls [])) : W p l e room_1 s mid #[Value.ref b] below meth c H locs cells slots Q (F0 mid 224 ls []) := by
  obtain ⟨hx, hb, hr, hml, hown, hts, -⟩ := id C.1
  have hown : s.vm.findClass RL = some mid.cls := hown
  refine l_a1 C dW_224 hls ?_
  refine l_arg C (k := 1) dW_225 dW_226 dW_228 dW_229 dW_230 (by decide) (by omega) hL hls hst ?_
  refine l_arg C (k := 2) dW_231 dW_232 dW_234 dW_235 dW_236 (by decide) (by omega) hL hls hst ?_
  refine l_arg C (k := 3) dW_237 dW_238 dW_240 dW_241 dW_242 (by decide) (by omega) hL hls hst ?_
  refine l_arg C (k := 4) dW_243 dW_244 dW_246 dW_247 dW_248 (by decide) (by omega) hL hls hst ?_
  refine l_arg C (k := 5) dW_249 dW_250 dW_252 dW_253 dW_254 (by decide) (by omega) hL hls hst ?_
  obtain ⟨XF, hx1, hm1⟩ := p_feed (xs (i + 1)) (xs (i + 2)) (xs (i + 3)) (xs (i + 4)) (xs (i + 5)) x hv
  refine l_call1 C (a := 0) (j := 96) (w := 552) (n := 5) (as := [.int (xs (i + 1)), .int (xs (i + 2)), .int (xs (i + 3)), .int (xs (i + 4)), .int (xs (i + 5))]) (rest := []) (d := 1200) dW_255 (by decide +kernel) rfl (by decide) (Nat.le_refl _) hx1 hls hst hcs (fun rv x1 H1 locs1 hp1 hst1 => ?_)
  obtain ⟨⟨z, rfl⟩, hp1⟩ := hp1
  refine lv_pop hx hb dW_258 rfl ?_
  refine l_a2 C dW_259 hls ?_
  refine l_arg C (k := 1) dW_260 dW_261 dW_263 dW_264 dW_265 (by decide) (by omega) hL hls hst1 ?_
  refine l_arg C (k := 2) dW_266 dW_267 dW_269 dW_270 dW_271 (by decide) (by omega) hL hls hst1 ?_
  refine l_arg C (k := 3) dW_272 dW_273 dW_275 dW_276 dW_277 (by decide) (by omega) hL hls hst1 ?_
  refine l_arg C (k := 4) dW_278 dW_279 dW_281 dW_282 dW_283 (by decide) (by omega) hL hls hst1 ?_
  refine l_arg C (k := 5) dW_284 dW_285 dW_287 dW_288 dW_289 (by decide) (by omega) hL hls hst1 ?_
  refine l_call1 C (a := 314) (j := 160) (w := 1452) (n := 5) (as := [.int (xs (i + 1)), .int (xs (i + 2)), .int (xs (i + 3)), .int (xs (i + 4)), .int (xs (i + 5))]) (rest := []) (d := 1200) dW_290 (by decide +kernel) rfl (by decide) (Nat.le_refl _) (hm1 _ _ hp1) hls hst1 hcs (fun rv x2 H2 locs2 hp2 hst2 => ?_)
  obtain ⟨rfl, hv2⟩ := hp2
  refine lv_pop hx hb dW_293 rfl ?_
  refine l_go C dW_294 (by decide) ?_
  exact kk x2 H2 locs2 hv2 hst2
set_option maxHeartbeats 2000000 in
theorem lk_1 (C : lCx p l s mid meth c b L xs dC dI cA q sv qo) (hL : L ≤ 3072) (hi : i + 6 ≤ L) (hls : lv_has ls 7 (lvL b q qo i)) (hst : lSt s dC dI cA q qo x H locs) (hv : Inv x) (hcs : cells ≤ 601024 ∧ slots ≤ 7293033) (kk : ∀ (x' : xM) (H1 : Heap) (locs1 : List Loc), Inv x' → lSt s dC dI cA q qo x' H1 locs1 → W p l e room_1 s mid #[Value.ref b] below meth c H1 locs1 cells slots Q (F0 mid 1601 ls [])) : W p l e room_1 s mid #[Value.ref b] below meth c H locs cells slots Q (F0 mid 297 ls []) := by
  obtain ⟨hx, hb, hr, hml, hown, hts, -⟩ := id C.1
  have hown : s.vm.findClass RL = some mid.cls := hown
  refine l_a1 C dW_297 hls ?_
  refine l_arg C (k := 1) dW_298 dW_299 dW_301 dW_302 dW_303 (by decide) (by omega) hL hls hst ?_
  obtain ⟨XF, hx1, hm1⟩ := p_end (xs (i + 1)) x hv
  refine l_call1 C (a := 0) (j := 97) (w := 563) (n := 1) (as := [.int (xs (i + 1))]) (rest := []) (d := 1200) dW_304 (by decide +kernel) rfl (by decide) (Nat.le_refl _) hx1 hls hst hcs (fun rv x1 H1 locs1 hp1 hst1 => ?_)
  obtain ⟨⟨z, rfl⟩, hp1⟩ := hp1
  refine lv_pop hx hb dW_307 rfl ?_
  refine l_a2 C dW_308 hls ?_
  refine l_arg C (k := 1) dW_309 dW_310 dW_312 dW_313 dW_314 (by decide) (by omega) hL hls hst1 ?_
  refine l_call1 C (a := 314) (j := 161) (w := 1463) (n := 1) (as := [.int (xs (i + 1))]) (rest := []) (d := 1200) dW_315 (by decide +kernel) rfl (by decide) (Nat.le_refl _) (hm1 _ _ hp1) hls hst1 hcs (fun rv x2 H2 locs2 hp2 hst2 => ?_)
  obtain ⟨rfl, hv2⟩ := hp2
  refine lv_pop hx hb dW_318 rfl ?_
  refine l_go C dW_319 (by decide) ?_
  exact kk x2 H2 locs2 hv2 hst2
set_option maxHeartbeats 2000000 in
theorem lk_2 (C : lCx p l s mid meth c b L xs dC dI cA q sv qo) (hL : L ≤ 3072) (hi : i + 6 ≤ L) (hls : lv_has ls 7 (lvL b q qo i)) (hst : lSt s dC dI cA q qo x H locs) (hv : Inv x) (hcs : cells ≤ 601024 ∧ slots ≤ 7293033) (kk : ∀ (x' : xM) (H1 : Heap) (locs1 : List Loc), Inv x' → lSt s dC dI cA q qo x' H1 locs1 → W p l e room_1 s mid #[Value.ref b] below meth c H1 locs1 cells slots Q (F0 mid 1601 ls [])) : W p l e room_1 s mid #[Value.ref b] below meth c H locs cells slots Q (F0 mid 322 ls []) := by
  obtain ⟨hx, hb, hr, hml, hown, hts, -⟩ := id C.1
  have hown : s.vm.findClass RL = some mid.cls := hown
  refine l_a1 C dW_322 hls ?_
  refine l_arg C (k := 1) dW_323 dW_324 dW_326 dW_327 dW_328 (by decide) (by omega) hL hls hst ?_
  obtain ⟨XF, hx1, hm1⟩ := p_fault (xs (i + 1)) x hv
  refine l_call1 C (a := 0) (j := 98) (w := 567) (n := 1) (as := [.int (xs (i + 1))]) (rest := []) (d := 1200) dW_329 (by decide +kernel) rfl (by decide) (Nat.le_refl _) hx1 hls hst hcs (fun rv x1 H1 locs1 hp1 hst1 => ?_)
  obtain ⟨⟨z, rfl⟩, hp1⟩ := hp1
  refine lv_pop hx hb dW_332 rfl ?_
  refine l_a2 C dW_333 hls ?_
  refine l_arg C (k := 1) dW_334 dW_335 dW_337 dW_338 dW_339 (by decide) (by omega) hL hls hst1 ?_
  refine l_call1 C (a := 314) (j := 190) (w := 1467) (n := 1) (as := [.int (xs (i + 1))]) (rest := []) (d := 1200) dW_340 (by decide +kernel) rfl (by decide) (Nat.le_refl _) (hm1 _ _ hp1) hls hst1 hcs (fun rv x2 H2 locs2 hp2 hst2 => ?_)
  obtain ⟨rfl, hv2⟩ := hp2
  refine lv_pop hx hb dW_343 rfl ?_
  refine l_go C dW_344 (by decide) ?_
  exact kk x2 H2 locs2 hv2 hst2
set_option maxHeartbeats 2000000 in
theorem lk_3 (C : lCx p l s mid meth c b L xs dC dI cA q sv qo) (hL : L ≤ 3072) (hi : i + 6 ≤ L) (hls : lv_has ls 7 (lvL b q qo i)) (hst : lSt s dC dI cA q qo x H locs) (hv : Inv x) (hcs : cells ≤ 601024 ∧ slots ≤ 7293033) (kk : ∀ (x' : xM) (H1 : Heap) (locs1 : List Loc), Inv x' → lSt s dC dI cA q qo x' H1 locs1 → W p l e room_1 s mid #[Value.ref b] below meth c H1 locs1 cells slots Q (F0 mid 1601 ls [])) : W p l e room_1 s mid #[Value.ref b] below meth c H locs cells slots Q (F0 mid 347 ls []) := by
  obtain ⟨hx, hb, hr, hml, hown, hts, -⟩ := id C.1
  have hown : s.vm.findClass RL = some mid.cls := hown
  refine l_a1 C dW_347 hls ?_
  refine l_arg C (k := 1) dW_348 dW_349 dW_351 dW_352 dW_353 (by decide) (by omega) hL hls hst ?_
  obtain ⟨XF, hx1, hm1⟩ := p_text (xs (i + 1)) x hv
  refine l_call1 C (a := 0) (j := 99) (w := 726) (n := 1) (as := [.int (xs (i + 1))]) (rest := []) (d := 1200) dW_354 (by decide +kernel) rfl (by decide) (Nat.le_refl _) hx1 hls hst hcs (fun rv x1 H1 locs1 hp1 hst1 => ?_)
  obtain ⟨⟨z, rfl⟩, hp1⟩ := hp1
  refine lv_pop hx hb dW_357 rfl ?_
  refine l_a2 C dW_358 hls ?_
  refine l_arg C (k := 1) dW_359 dW_360 dW_362 dW_363 dW_364 (by decide) (by omega) hL hls hst1 ?_
  refine l_call1 C (a := 314) (j := 191) (w := 1646) (n := 1) (as := [.int (xs (i + 1))]) (rest := []) (d := 1200) dW_365 (by decide +kernel) rfl (by decide) (Nat.le_refl _) (hm1 _ _ hp1) hls hst1 hcs (fun rv x2 H2 locs2 hp2 hst2 => ?_)
  obtain ⟨rfl, hv2⟩ := hp2
  refine lv_pop hx hb dW_368 rfl ?_
  refine l_go C dW_369 (by decide) ?_
  exact kk x2 H2 locs2 hv2 hst2
set_option maxHeartbeats 2000000 in
theorem lk_4 (C : lCx p l s mid meth c b L xs dC dI cA q sv qo) (hL : L ≤ 3072) (hi : i + 6 ≤ L) (hls : lv_has ls 7 (lvL b q qo i)) (hst : lSt s dC dI cA q qo x H locs) (hv : Inv x) (hcs : cells ≤ 601024 ∧ slots ≤ 7293033) (kk : ∀ (x' : xM) (H1 : Heap) (locs1 : List Loc), Inv x' → lSt s dC dI cA q qo x' H1 locs1 → W p l e room_1 s mid #[Value.ref b] below meth c H1 locs1 cells slots Q (F0 mid 1601 ls [])) : W p l e room_1 s mid #[Value.ref b] below meth c H locs cells slots Q (F0 mid 372 ls []) := by
  obtain ⟨hx, hb, hr, hml, hown, hts, -⟩ := id C.1
  have hown : s.vm.findClass RL = some mid.cls := hown
  refine l_a1 C dW_372 hls ?_
  refine l_arg C (k := 1) dW_373 dW_374 dW_376 dW_377 dW_378 (by decide) (by omega) hL hls hst ?_
  refine l_arg C (k := 2) dW_379 dW_380 dW_382 dW_383 dW_384 (by decide) (by omega) hL hls hst ?_
  refine l_cp C (a := 0) (idx := 38) (w := 761) (n := 2) (vs := [.int (xs (i + 1)), .int (xs (i + 2))]) q113 (by decide) dW_385 dW_388 (by decide +kernel) rfl (by decide +kernel) (by decide +kernel) (fun z => trivial) ⟨aI_any _, aI_any _, trivial⟩ hv hls hst hcs (fun x1 H1 locs1 hv1 hst1 => ?_)
  refine l_a2 C dW_389 hls ?_
  refine l_arg C (k := 1) dW_390 dW_391 dW_393 dW_394 dW_395 (by decide) (by omega) hL hls hst1 ?_
  refine l_arg C (k := 2) dW_396 dW_397 dW_399 dW_400 dW_401 (by decide) (by omega) hL hls hst1 ?_
  refine l_cp C (a := 314) (idx := 41) (w := 1651) (n := 2) (vs := [.int (xs (i + 1)), .int (xs (i + 2))]) r15 (by decide) dW_402 dW_405 (by decide +kernel) rfl (by decide +kernel) (by decide +kernel) (fun z => z.2.1) ⟨aI_any _, aI_any _, trivial⟩ hv1 hls hst1 hcs (fun x2 H2 locs2 hv2 hst2 => ?_)
  refine l_go C dW_406 (by decide) ?_
  exact kk x2 H2 locs2 hv2 hst2
set_option maxHeartbeats 2000000 in
theorem lk_5 (C : lCx p l s mid meth c b L xs dC dI cA q sv qo) (hL : L ≤ 3072) (hi : i + 6 ≤ L) (hls : lv_has ls 7 (lvL b q qo i)) (hst : lSt s dC dI cA q qo x H locs) (hv : Inv x) (hcs : cells ≤ 601024 ∧ slots ≤ 7293033) (kk : ∀ (x' : xM) (H1 : Heap) (locs1 : List Loc), Inv x' → lSt s dC dI cA q qo x' H1 locs1 → W p l e room_1 s mid #[Value.ref b] below meth c H1 locs1 cells slots Q (F0 mid 1601 ls [])) : W p l e room_1 s mid #[Value.ref b] below meth c H locs cells slots Q (F0 mid 409 ls []) := by
  obtain ⟨hx, hb, hr, hml, hown, hts, -⟩ := id C.1
  have hown : s.vm.findClass RL = some mid.cls := hown
  refine l_a1 C dW_409 hls ?_
  refine l_arg C (k := 1) dW_410 dW_411 dW_413 dW_414 dW_415 (by decide) (by omega) hL hls hst ?_
  refine l_arg C (k := 2) dW_416 dW_417 dW_419 dW_420 dW_421 (by decide) (by omega) hL hls hst ?_
  obtain ⟨XF, hx1, hm1⟩ := p_street (xs (i + 1)) (xs (i + 2)) x hv
  refine l_call1 C (a := 0) (j := 102) (w := 783) (n := 2) (as := [.int (xs (i + 1)), .int (xs (i + 2))]) (rest := []) (d := 1200) dW_422 (by decide +kernel) rfl (by decide) (Nat.le_refl _) hx1 hls hst hcs (fun rv x1 H1 locs1 hp1 hst1 => ?_)
  obtain ⟨⟨z, rfl⟩, hp1⟩ := hp1
  refine lv_pop hx hb dW_425 rfl ?_
  refine l_a2 C dW_426 hls ?_
  refine l_arg C (k := 1) dW_427 dW_428 dW_430 dW_431 dW_432 (by decide) (by omega) hL hls hst1 ?_
  refine l_arg C (k := 2) dW_433 dW_434 dW_436 dW_437 dW_438 (by decide) (by omega) hL hls hst1 ?_
  refine l_call1 C (a := 314) (j := 206) (w := 1663) (n := 2) (as := [.int (xs (i + 1)), .int (xs (i + 2))]) (rest := []) (d := 1200) dW_439 (by decide +kernel) rfl (by decide) (Nat.le_refl _) (hm1 _ _ hp1) hls hst1 hcs (fun rv x2 H2 locs2 hp2 hst2 => ?_)
  obtain ⟨rfl, hv2⟩ := hp2
  refine lv_pop hx hb dW_442 rfl ?_
  refine l_go C dW_443 (by decide) ?_
  exact kk x2 H2 locs2 hv2 hst2
set_option maxHeartbeats 2000000 in
theorem lk_7 (C : lCx p l s mid meth c b L xs dC dI cA q sv qo) (hL : L ≤ 3072) (hi : i + 6 ≤ L) (hls : lv_has ls 7 (lvL b q qo i)) (hst : lSt s dC dI cA q qo x H locs) (hv : Inv x) (hcs : cells ≤ 601024 ∧ slots ≤ 7293033) (kk : ∀ (x' : xM) (H1 : Heap) (locs1 : List Loc), Inv x' → lSt s dC dI cA q qo x' H1 locs1 → W p l e room_1 s mid #[Value.ref b] below meth c H1 locs1 cells slots Q (F0 mid 1601 ls [])) : W p l e room_1 s mid #[Value.ref b] below meth c H locs cells slots Q (F0 mid 486 ls []) := by
  obtain ⟨hx, hb, hr, hml, hown, hts, -⟩ := id C.1
  have hown : s.vm.findClass RL = some mid.cls := hown
  refine l_a1 C dW_486 hls ?_
  refine l_arg C (k := 1) dW_487 dW_488 dW_490 dW_491 dW_492 (by decide) (by omega) hL hls hst ?_
  obtain ⟨XF, hx1, hm1⟩ := p_law (xs (i + 1)) x hv
  refine l_call1 C (a := 0) (j := 104) (w := 797) (n := 1) (as := [.int (xs (i + 1))]) (rest := []) (d := 1200) dW_493 (by decide +kernel) rfl (by decide) (Nat.le_refl _) hx1 hls hst hcs (fun rv x1 H1 locs1 hp1 hst1 => ?_)
  obtain ⟨⟨z, rfl⟩, hp1⟩ := hp1
  refine lv_pop hx hb dW_496 rfl ?_
  refine l_a2 C dW_497 hls ?_
  refine l_arg C (k := 1) dW_498 dW_499 dW_501 dW_502 dW_503 (by decide) (by omega) hL hls hst1 ?_
  refine l_call1 C (a := 314) (j := 208) (w := 1680) (n := 1) (as := [.int (xs (i + 1))]) (rest := []) (d := 1200) dW_504 (by decide +kernel) rfl (by decide) (Nat.le_refl _) (hm1 _ _ hp1) hls hst1 hcs (fun rv x2 H2 locs2 hp2 hst2 => ?_)
  obtain ⟨rfl, hv2⟩ := hp2
  refine lv_pop hx hb dW_507 rfl ?_
  refine l_go C dW_508 (by decide) ?_
  exact kk x2 H2 locs2 hv2 hst2
set_option maxHeartbeats 2000000 in
theorem lk_8 (C : lCx p l s mid meth c b L xs dC dI cA q sv qo) (hL : L ≤ 3072) (hi : i + 6 ≤ L) (hls : lv_has ls 7 (lvL b q qo i)) (hst : lSt s dC dI cA q qo x H locs) (hv : Inv x) (hcs : cells ≤ 601024 ∧ slots ≤ 7293033) (kk : ∀ (x' : xM) (H1 : Heap) (locs1 : List Loc), Inv x' → lSt s dC dI cA q qo x' H1 locs1 → W p l e room_1 s mid #[Value.ref b] below meth c H1 locs1 cells slots Q (F0 mid 1601 ls [])) : W p l e room_1 s mid #[Value.ref b] below meth c H locs cells slots Q (F0 mid 511 ls []) := by
  obtain ⟨hx, hb, hr, hml, hown, hts, -⟩ := id C.1
  have hown : s.vm.findClass RL = some mid.cls := hown
  refine l_a1 C dW_511 hls ?_
  refine l_arg C (k := 1) dW_512 dW_513 dW_515 dW_516 dW_517 (by decide) (by omega) hL hls hst ?_
  obtain ⟨XF, hx1, hm1⟩ := p_council (xs (i + 1)) x hv
  refine l_call1 C (a := 0) (j := 105) (w := 801) (n := 1) (as := [.int (xs (i + 1))]) (rest := []) (d := 1200) dW_518 (by decide +kernel) rfl (by decide) (Nat.le_refl _) hx1 hls hst hcs (fun rv x1 H1 locs1 hp1 hst1 => ?_)
  obtain ⟨⟨z, rfl⟩, hp1⟩ := hp1
  refine lv_pop hx hb dW_521 rfl ?_
  refine l_a2 C dW_522 hls ?_
  refine l_arg C (k := 1) dW_523 dW_524 dW_526 dW_527 dW_528 (by decide) (by omega) hL hls hst1 ?_
  refine l_call1 C (a := 314) (j := 209) (w := 1684) (n := 1) (as := [.int (xs (i + 1))]) (rest := []) (d := 1200) dW_529 (by decide +kernel) rfl (by decide) (Nat.le_refl _) (hm1 _ _ hp1) hls hst1 hcs (fun rv x2 H2 locs2 hp2 hst2 => ?_)
  obtain ⟨rfl, hv2⟩ := hp2
  refine lv_pop hx hb dW_532 rfl ?_
  refine l_go C dW_533 (by decide) ?_
  exact kk x2 H2 locs2 hv2 hst2
set_option maxHeartbeats 2000000 in
theorem lk_9 (C : lCx p l s mid meth c b L xs dC dI cA q sv qo) (hL : L ≤ 3072) (hi : i + 6 ≤ L) (hls : lv_has ls 7 (lvL b q qo i)) (hst : lSt s dC dI cA q qo x H locs) (hv : Inv x) (hcs : cells ≤ 601024 ∧ slots ≤ 7293033) (kk : ∀ (x' : xM) (H1 : Heap) (locs1 : List Loc), Inv x' → lSt s dC dI cA q qo x' H1 locs1 → W p l e room_1 s mid #[Value.ref b] below meth c H1 locs1 cells slots Q (F0 mid 1601 ls [])) : W p l e room_1 s mid #[Value.ref b] below meth c H locs cells slots Q (F0 mid 536 ls []) := by
  obtain ⟨hx, hb, hr, hml, hown, hts, -⟩ := id C.1
  have hown : s.vm.findClass RL = some mid.cls := hown
  refine l_a1 C dW_536 hls ?_
  obtain ⟨XF, hx1, hm1⟩ := p_day  x hv
  refine l_call1 C (a := 0) (j := 113) (w := 817) (n := 0) (as := []) (rest := []) (d := 1200) dW_537 (by decide +kernel) rfl (by decide) (Nat.le_refl _) hx1 hls hst hcs (fun rv x1 H1 locs1 hp1 hst1 => ?_)
  obtain ⟨⟨z, rfl⟩, hp1⟩ := hp1
  refine lv_pop hx hb dW_540 rfl ?_
  refine l_a2 C dW_541 hls ?_
  refine l_call1 C (a := 314) (j := 212) (w := 1689) (n := 0) (as := []) (rest := []) (d := 1200) dW_542 (by decide +kernel) rfl (by decide) (Nat.le_refl _) (hm1 _ _ hp1) hls hst1 hcs (fun rv x2 H2 locs2 hp2 hst2 => ?_)
  obtain ⟨rfl, hv2⟩ := hp2
  refine lv_pop hx hb dW_545 rfl ?_
  refine l_go C dW_546 (by decide) ?_
  exact kk x2 H2 locs2 hv2 hst2
set_option maxHeartbeats 2000000 in
theorem lk_10 (C : lCx p l s mid meth c b L xs dC dI cA q sv qo) (hL : L ≤ 3072) (hi : i + 6 ≤ L) (hls : lv_has ls 7 (lvL b q qo i)) (hst : lSt s dC dI cA q qo x H locs) (hv : Inv x) (hcs : cells ≤ 601024 ∧ slots ≤ 7293033) (kk : ∀ (x' : xM) (H1 : Heap) (locs1 : List Loc), Inv x' → lSt s dC dI cA q qo x' H1 locs1 → W p l e room_1 s mid #[Value.ref b] below meth c H1 locs1 cells slots Q (F0 mid 1601 ls [])) : W p l e room_1 s mid #[Value.ref b] below meth c H locs cells slots Q (F0 mid 549 ls []) := by
  obtain ⟨hx, hb, hr, hml, hown, hts, -⟩ := id C.1
  have hown : s.vm.findClass RL = some mid.cls := hown
  refine l_a1 C dW_549 hls ?_
  refine l_arg C (k := 1) dW_550 dW_551 dW_553 dW_554 dW_555 (by decide) (by omega) hL hls hst ?_
  obtain ⟨XF, hx1, hm1⟩ := p_wall (xs (i + 1)) x hv
  refine l_call1 C (a := 0) (j := 115) (w := 930) (n := 1) (as := [.int (xs (i + 1))]) (rest := []) (d := 1200) dW_556 (by decide +kernel) rfl (by decide) (Nat.le_refl _) hx1 hls hst hcs (fun rv x1 H1 locs1 hp1 hst1 => ?_)
  obtain ⟨⟨z, rfl⟩, hp1⟩ := hp1
  refine lv_pop hx hb dW_559 rfl ?_
  refine l_a2 C dW_560 hls ?_
  refine l_arg C (k := 1) dW_561 dW_562 dW_564 dW_565 dW_566 (by decide) (by omega) hL hls hst1 ?_
  refine l_call1 C (a := 314) (j := 213) (w := 1740) (n := 1) (as := [.int (xs (i + 1))]) (rest := []) (d := 1200) dW_567 (by decide +kernel) rfl (by decide) (Nat.le_refl _) (hm1 _ _ hp1) hls hst1 hcs (fun rv x2 H2 locs2 hp2 hst2 => ?_)
  obtain ⟨rfl, hv2⟩ := hp2
  refine lv_pop hx hb dW_570 rfl ?_
  refine l_go C dW_571 (by decide) ?_
  exact kk x2 H2 locs2 hv2 hst2
set_option maxHeartbeats 2000000 in
theorem lk_11 (C : lCx p l s mid meth c b L xs dC dI cA q sv qo) (hL : L ≤ 3072) (hi : i + 6 ≤ L) (hls : lv_has ls 7 (lvL b q qo i)) (hst : lSt s dC dI cA q qo x H locs) (hv : Inv x) (hcs : cells ≤ 601024 ∧ slots ≤ 7293033) (kk : ∀ (x' : xM) (H1 : Heap) (locs1 : List Loc), Inv x' → lSt s dC dI cA q qo x' H1 locs1 → W p l e room_1 s mid #[Value.ref b] below meth c H1 locs1 cells slots Q (F0 mid 1601 ls [])) : W p l e room_1 s mid #[Value.ref b] below meth c H locs cells slots Q (F0 mid 574 ls []) := by
  obtain ⟨hx, hb, hr, hml, hown, hts, -⟩ := id C.1
  have hown : s.vm.findClass RL = some mid.cls := hown
  refine l_a1 C dW_574 hls ?_
  refine l_arg C (k := 1) dW_575 dW_576 dW_578 dW_579 dW_580 (by decide) (by omega) hL hls hst ?_
  obtain ⟨XF, hx1, hm1⟩ := p_lamp (xs (i + 1)) x hv
  refine l_call1 C (a := 0) (j := 116) (w := 934) (n := 1) (as := [.int (xs (i + 1))]) (rest := []) (d := 1200) dW_581 (by decide +kernel) rfl (by decide) (Nat.le_refl _) hx1 hls hst hcs (fun rv x1 H1 locs1 hp1 hst1 => ?_)
  obtain ⟨⟨z, rfl⟩, hp1⟩ := hp1
  refine lv_pop hx hb dW_584 rfl ?_
  refine l_a2 C dW_585 hls ?_
  refine l_arg C (k := 1) dW_586 dW_587 dW_589 dW_590 dW_591 (by decide) (by omega) hL hls hst1 ?_
  refine l_call1 C (a := 314) (j := 214) (w := 1748) (n := 1) (as := [.int (xs (i + 1))]) (rest := []) (d := 1200) dW_592 (by decide +kernel) rfl (by decide) (Nat.le_refl _) (hm1 _ _ hp1) hls hst1 hcs (fun rv x2 H2 locs2 hp2 hst2 => ?_)
  obtain ⟨rfl, hv2⟩ := hp2
  refine lv_pop hx hb dW_595 rfl ?_
  refine l_go C dW_596 (by decide) ?_
  exact kk x2 H2 locs2 hv2 hst2
set_option maxHeartbeats 2000000 in
theorem lk_12 (C : lCx p l s mid meth c b L xs dC dI cA q sv qo) (hL : L ≤ 3072) (hi : i + 6 ≤ L) (hls : lv_has ls 7 (lvL b q qo i)) (hst : lSt s dC dI cA q qo x H locs) (hv : Inv x) (hcs : cells ≤ 601024 ∧ slots ≤ 7293033) (kk : ∀ (x' : xM) (H1 : Heap) (locs1 : List Loc), Inv x' → lSt s dC dI cA q qo x' H1 locs1 → W p l e room_1 s mid #[Value.ref b] below meth c H1 locs1 cells slots Q (F0 mid 1601 ls [])) : W p l e room_1 s mid #[Value.ref b] below meth c H locs cells slots Q (F0 mid 599 ls []) := by
  obtain ⟨hx, hb, hr, hml, hown, hts, -⟩ := id C.1
  have hown : s.vm.findClass RL = some mid.cls := hown
  refine l_a1 C dW_599 hls ?_
  refine l_arg C (k := 1) dW_600 dW_601 dW_603 dW_604 dW_605 (by decide) (by omega) hL hls hst ?_
  refine l_arg C (k := 2) dW_606 dW_607 dW_609 dW_610 dW_611 (by decide) (by omega) hL hls hst ?_
  obtain ⟨XF, hx1, hm1⟩ := p_moves (xs (i + 1)) (xs (i + 2)) x hv
  refine l_call1 C (a := 0) (j := 117) (w := 938) (n := 2) (as := [.int (xs (i + 1)), .int (xs (i + 2))]) (rest := []) (d := 1200) dW_612 (by decide +kernel) rfl (by decide) (Nat.le_refl _) hx1 hls hst hcs (fun rv x1 H1 locs1 hp1 hst1 => ?_)
  obtain ⟨⟨z, rfl⟩, hp1⟩ := hp1
  refine lv_pop hx hb dW_615 rfl ?_
  refine l_a2 C dW_616 hls ?_
  refine l_arg C (k := 1) dW_617 dW_618 dW_620 dW_621 dW_622 (by decide) (by omega) hL hls hst1 ?_
  refine l_arg C (k := 2) dW_623 dW_624 dW_626 dW_627 dW_628 (by decide) (by omega) hL hls hst1 ?_
  refine l_call1 C (a := 314) (j := 215) (w := 1752) (n := 2) (as := [.int (xs (i + 1)), .int (xs (i + 2))]) (rest := []) (d := 1200) dW_629 (by decide +kernel) rfl (by decide) (Nat.le_refl _) (hm1 _ _ hp1) hls hst1 hcs (fun rv x2 H2 locs2 hp2 hst2 => ?_)
  obtain ⟨rfl, hv2⟩ := hp2
  refine lv_pop hx hb dW_632 rfl ?_
  refine l_go C dW_633 (by decide) ?_
  exact kk x2 H2 locs2 hv2 hst2
set_option maxHeartbeats 2000000 in
theorem lk_13 (C : lCx p l s mid meth c b L xs dC dI cA q sv qo) (hL : L ≤ 3072) (hi : i + 6 ≤ L) (hls : lv_has ls 7 (lvL b q qo i)) (hst : lSt s dC dI cA q qo x H locs) (hv : Inv x) (hcs : cells ≤ 601024 ∧ slots ≤ 7293033) (kk : ∀ (x' : xM) (H1 : Heap) (locs1 : List Loc), Inv x' → lSt s dC dI cA q qo x' H1 locs1 → W p l e room_1 s mid #[Value.ref b] below meth c H1 locs1 cells slots Q (F0 mid 1601 ls [])) : W p l e room_1 s mid #[Value.ref b] below meth c H locs cells slots Q (F0 mid 636 ls []) := by
  obtain ⟨hx, hb, hr, hml, hown, hts, -⟩ := id C.1
  have hown : s.vm.findClass RL = some mid.cls := hown
  refine l_a1 C dW_636 hls ?_
  refine l_arg C (k := 1) dW_637 dW_638 dW_640 dW_641 dW_642 (by decide) (by omega) hL hls hst ?_
  obtain ⟨XF, hx1, hm1⟩ := p_preach (xs (i + 1)) x hv
  refine l_call1 C (a := 0) (j := 118) (w := 946) (n := 1) (as := [.int (xs (i + 1))]) (rest := []) (d := 1200) dW_643 (by decide +kernel) rfl (by decide) (Nat.le_refl _) hx1 hls hst hcs (fun rv x1 H1 locs1 hp1 hst1 => ?_)
  obtain ⟨⟨z, rfl⟩, hp1⟩ := hp1
  refine l_a2 C dW_646 hls ?_
  refine l_arg C (k := 1) dW_647 dW_648 dW_650 dW_651 dW_652 (by decide) (by omega) hL hls hst1 ?_
  refine l_call1 C (a := 314) (j := 216) (w := 1756) (n := 1) (as := [.int (xs (i + 1))]) (rest := [.int z]) (d := 1200) dW_653 (by decide +kernel) rfl (by show 1 ≤ 8; decide) (Nat.le_refl _) (hm1 _ _ hp1) hls hst1 hcs (fun rv x2 H2 locs2 hp2 hst2 => ?_)
  obtain ⟨rfl, hv2⟩ := hp2
  exact lv_icmp_eq (tgt := 1601) hx hb dW_656 (by decide) (fun _ => kk x2 H2 locs2 hv2 hst2) (fun c9 => absurd rfl c9)
set_option maxHeartbeats 2000000 in
theorem lk_14 (C : lCx p l s mid meth c b L xs dC dI cA q sv qo) (hL : L ≤ 3072) (hi : i + 6 ≤ L) (hls : lv_has ls 7 (lvL b q qo i)) (hst : lSt s dC dI cA q qo x H locs) (hv : Inv x) (hcs : cells ≤ 601024 ∧ slots ≤ 7293033) (kk : ∀ (x' : xM) (H1 : Heap) (locs1 : List Loc), Inv x' → lSt s dC dI cA q qo x' H1 locs1 → W p l e room_1 s mid #[Value.ref b] below meth c H1 locs1 cells slots Q (F0 mid 1601 ls [])) : W p l e room_1 s mid #[Value.ref b] below meth c H locs cells slots Q (F0 mid 661 ls []) := by
  obtain ⟨hx, hb, hr, hml, hown, hts, -⟩ := id C.1
  have hown : s.vm.findClass RL = some mid.cls := hown
  refine l_a1 C dW_661 hls ?_
  refine l_arg C (k := 1) dW_662 dW_663 dW_665 dW_666 dW_667 (by decide) (by omega) hL hls hst ?_
  obtain ⟨XF, hx1, hm1⟩ := p_give (xs (i + 1)) x hv
  refine l_call1 C (a := 0) (j := 119) (w := 950) (n := 1) (as := [.int (xs (i + 1))]) (rest := []) (d := 1200) dW_668 (by decide +kernel) rfl (by decide) (Nat.le_refl _) hx1 hls hst hcs (fun rv x1 H1 locs1 hp1 hst1 => ?_)
  obtain ⟨⟨z, rfl⟩, hp1⟩ := hp1
  refine lv_pop hx hb dW_671 rfl ?_
  refine l_a2 C dW_672 hls ?_
  refine l_arg C (k := 1) dW_673 dW_674 dW_676 dW_677 dW_678 (by decide) (by omega) hL hls hst1 ?_
  refine l_call1 C (a := 314) (j := 217) (w := 1760) (n := 1) (as := [.int (xs (i + 1))]) (rest := []) (d := 1200) dW_679 (by decide +kernel) rfl (by decide) (Nat.le_refl _) (hm1 _ _ hp1) hls hst1 hcs (fun rv x2 H2 locs2 hp2 hst2 => ?_)
  obtain ⟨rfl, hv2⟩ := hp2
  refine lv_pop hx hb dW_682 rfl ?_
  refine l_go C dW_683 (by decide) ?_
  exact kk x2 H2 locs2 hv2 hst2
set_option maxHeartbeats 2000000 in
theorem lk_15 (C : lCx p l s mid meth c b L xs dC dI cA q sv qo) (hL : L ≤ 3072) (hi : i + 6 ≤ L) (hls : lv_has ls 7 (lvL b q qo i)) (hst : lSt s dC dI cA q qo x H locs) (hv : Inv x) (hcs : cells ≤ 601024 ∧ slots ≤ 7293033) (kk : ∀ (x' : xM) (H1 : Heap) (locs1 : List Loc), Inv x' → lSt s dC dI cA q qo x' H1 locs1 → W p l e room_1 s mid #[Value.ref b] below meth c H1 locs1 cells slots Q (F0 mid 1601 ls [])) : W p l e room_1 s mid #[Value.ref b] below meth c H locs cells slots Q (F0 mid 686 ls []) := by
  obtain ⟨hx, hb, hr, hml, hown, hts, -⟩ := id C.1
  have hown : s.vm.findClass RL = some mid.cls := hown
  refine l_a1 C dW_686 hls ?_
  refine l_arg C (k := 1) dW_687 dW_688 dW_690 dW_691 dW_692 (by decide) (by omega) hL hls hst ?_
  refine l_arg C (k := 2) dW_693 dW_694 dW_696 dW_697 dW_698 (by decide) (by omega) hL hls hst ?_
  refine lv_i2l (v := (xs (i + 2)).toInt64) hx hb dW_699 rfl ?_
  refine lv_bipush (v := 32) hx hb dW_700 (by decide) ?_
  refine lv_lshl (v := ((xs (i + 2)).toInt64) <<< ((32 : Int32).toInt64 &&& 63)) hx hb dW_702 rfl ?_
  refine l_arg C (k := 3) dW_703 dW_704 dW_706 dW_707 dW_708 (by decide) (by omega) hL hls hst ?_
  refine lv_i2l (v := (xs (i + 3)).toInt64) hx hb dW_709 rfl ?_
  refine lv_ldc2 hx hb hown (hts (.constantLong "WallChapelsLaw" 85 4294967295) (List.mem_of_getElem? (i := 1962) (by decide +kernel))) dW_710 ?_
  refine lv_land hx hb dW_713 ?_
  refine lv_lor hx hb dW_714 ?_
  obtain ⟨XF, hx1, hm1⟩ := p_years (xs (i + 1)) ((((xs (i + 2)).toInt64) <<< ((32 : Int32).toInt64 &&& 63)) ||| (((xs (i + 3)).toInt64) &&& 4294967295)) x hv
  refine l_call1 C (a := 0) (j := 120) (w := 954) (n := 2) (as := [.int (xs (i + 1)), .long ((((xs (i + 2)).toInt64) <<< ((32 : Int32).toInt64 &&& 63)) ||| (((xs (i + 3)).toInt64) &&& 4294967295))]) (rest := []) (d := 1200) dW_715 (by decide +kernel) rfl (by decide) (Nat.le_refl _) hx1 hls hst hcs (fun rv x1 H1 locs1 hp1 hst1 => ?_)
  obtain ⟨⟨z, rfl⟩, hp1⟩ := hp1
  refine lv_pop hx hb dW_718 rfl ?_
  refine l_a2 C dW_719 hls ?_
  refine l_arg C (k := 1) dW_720 dW_721 dW_723 dW_724 dW_725 (by decide) (by omega) hL hls hst1 ?_
  refine l_arg C (k := 2) dW_726 dW_727 dW_729 dW_730 dW_731 (by decide) (by omega) hL hls hst1 ?_
  refine lv_i2l (v := (xs (i + 2)).toInt64) hx hb dW_732 rfl ?_
  refine lv_bipush (v := 32) hx hb dW_733 (by decide) ?_
  refine lv_lshl (v := ((xs (i + 2)).toInt64) <<< ((32 : Int32).toInt64 &&& 63)) hx hb dW_735 rfl ?_
  refine l_arg C (k := 3) dW_736 dW_737 dW_739 dW_740 dW_741 (by decide) (by omega) hL hls hst1 ?_
  refine lv_i2l (v := (xs (i + 3)).toInt64) hx hb dW_742 rfl ?_
  refine lv_ldc2 hx hb hown (hts (.constantLong "WallChapelsLaw" 85 4294967295) (List.mem_of_getElem? (i := 1962) (by decide +kernel))) dW_743 ?_
  refine lv_land hx hb dW_746 ?_
  refine lv_lor hx hb dW_747 ?_
  refine l_call1 C (a := 314) (j := 219) (w := 1765) (n := 2) (as := [.int (xs (i + 1)), .long ((((xs (i + 2)).toInt64) <<< ((32 : Int32).toInt64 &&& 63)) ||| (((xs (i + 3)).toInt64) &&& 4294967295))]) (rest := []) (d := 1200) dW_748 (by decide +kernel) rfl (by decide) (Nat.le_refl _) (hm1 _ _ hp1) hls hst1 hcs (fun rv x2 H2 locs2 hp2 hst2 => ?_)
  obtain ⟨rfl, hv2⟩ := hp2
  refine lv_pop hx hb dW_751 rfl ?_
  refine l_go C dW_752 (by decide) ?_
  exact kk x2 H2 locs2 hv2 hst2
set_option maxHeartbeats 2000000 in
theorem lk_16 (C : lCx p l s mid meth c b L xs dC dI cA q sv qo) (hL : L ≤ 3072) (hi : i + 6 ≤ L) (hls : lv_has ls 7 (lvL b q qo i)) (hst : lSt s dC dI cA q qo x H locs) (hv : Inv x) (hcs : cells ≤ 601024 ∧ slots ≤ 7293033) (kk : ∀ (x' : xM) (H1 : Heap) (locs1 : List Loc), Inv x' → lSt s dC dI cA q qo x' H1 locs1 → W p l e room_1 s mid #[Value.ref b] below meth c H1 locs1 cells slots Q (F0 mid 1601 ls [])) : W p l e room_1 s mid #[Value.ref b] below meth c H locs cells slots Q (F0 mid 755 ls []) := by
  obtain ⟨hx, hb, hr, hml, hown, hts, -⟩ := id C.1
  have hown : s.vm.findClass RL = some mid.cls := hown
  refine l_a1 C dW_755 hls ?_
  obtain ⟨XF, hx1, hm1⟩ := p_undo  x hv
  refine l_call1 C (a := 0) (j := 123) (w := 966) (n := 0) (as := []) (rest := []) (d := 1200) dW_756 (by decide +kernel) rfl (by decide) (Nat.le_refl _) hx1 hls hst hcs (fun rv x1 H1 locs1 hp1 hst1 => ?_)
  obtain ⟨⟨z, rfl⟩, hp1⟩ := hp1
  refine lv_pop hx hb dW_759 rfl ?_
  refine l_a2 C dW_760 hls ?_
  refine l_call1 C (a := 314) (j := 220) (w := 1776) (n := 0) (as := []) (rest := []) (d := 1200) dW_761 (by decide +kernel) rfl (by decide) (Nat.le_refl _) (hm1 _ _ hp1) hls hst1 hcs (fun rv x2 H2 locs2 hp2 hst2 => ?_)
  obtain ⟨rfl, hv2⟩ := hp2
  refine lv_pop hx hb dW_764 rfl ?_
  refine l_go C dW_765 (by decide) ?_
  exact kk x2 H2 locs2 hv2 hst2
set_option maxHeartbeats 2000000 in
theorem lk_17 (C : lCx p l s mid meth c b L xs dC dI cA q sv qo) (hL : L ≤ 3072) (hi : i + 6 ≤ L) (hls : lv_has ls 7 (lvL b q qo i)) (hst : lSt s dC dI cA q qo x H locs) (hv : Inv x) (hcs : cells ≤ 601024 ∧ slots ≤ 7293033) (kk : ∀ (x' : xM) (H1 : Heap) (locs1 : List Loc), Inv x' → lSt s dC dI cA q qo x' H1 locs1 → W p l e room_1 s mid #[Value.ref b] below meth c H1 locs1 cells slots Q (F0 mid 1601 ls [])) : W p l e room_1 s mid #[Value.ref b] below meth c H locs cells slots Q (F0 mid 768 ls []) := by
  obtain ⟨hx, hb, hr, hml, hown, hts, -⟩ := id C.1
  have hown : s.vm.findClass RL = some mid.cls := hown
  refine l_a1 C dW_768 hls ?_
  refine l_arg C (k := 1) dW_769 dW_770 dW_772 dW_773 dW_774 (by decide) (by omega) hL hls hst ?_
  refine l_arg C (k := 2) dW_775 dW_776 dW_778 dW_779 dW_780 (by decide) (by omega) hL hls hst ?_
  refine l_cp C (a := 0) (idx := 96) (w := 974) (n := 2) (vs := [.int (xs (i + 1)), .int (xs (i + 2))]) q215 (by decide) dW_781 dW_784 (by decide +kernel) rfl (by decide +kernel) (by decide +kernel) (fun z => trivial) ⟨aI_any _, aI_any _, trivial⟩ hv hls hst hcs (fun x1 H1 locs1 hv1 hst1 => ?_)
  refine l_a2 C dW_785 hls ?_
  refine l_arg C (k := 1) dW_786 dW_787 dW_789 dW_790 dW_791 (by decide) (by omega) hL hls hst1 ?_
  refine l_arg C (k := 2) dW_792 dW_793 dW_795 dW_796 dW_797 (by decide) (by omega) hL hls hst1 ?_
  refine l_cp C (a := 314) (idx := 99) (w := 1780) (n := 2) (vs := [.int (xs (i + 1)), .int (xs (i + 2))]) r142 (by decide) dW_798 dW_801 (by decide +kernel) rfl (by decide +kernel) (by decide +kernel) (fun z => z.2.1) ⟨aI_any _, aI_any _, trivial⟩ hv1 hls hst1 hcs (fun x2 H2 locs2 hv2 hst2 => ?_)
  refine l_go C dW_802 (by decide) ?_
  exact kk x2 H2 locs2 hv2 hst2
set_option maxHeartbeats 2000000 in
theorem lk_18 (C : lCx p l s mid meth c b L xs dC dI cA q sv qo) (hL : L ≤ 3072) (hi : i + 6 ≤ L) (hls : lv_has ls 7 (lvL b q qo i)) (hst : lSt s dC dI cA q qo x H locs) (hv : Inv x) (hcs : cells ≤ 601024 ∧ slots ≤ 7293033) (kk : ∀ (x' : xM) (H1 : Heap) (locs1 : List Loc), Inv x' → lSt s dC dI cA q qo x' H1 locs1 → W p l e room_1 s mid #[Value.ref b] below meth c H1 locs1 cells slots Q (F0 mid 1601 ls [])) : W p l e room_1 s mid #[Value.ref b] below meth c H locs cells slots Q (F0 mid 805 ls []) := by
  obtain ⟨hx, hb, hr, hml, hown, hts, -⟩ := id C.1
  have hown : s.vm.findClass RL = some mid.cls := hown
  refine l_a1 C dW_805 hls ?_
  refine l_arg C (k := 1) dW_806 dW_807 dW_809 dW_810 dW_811 (by decide) (by omega) hL hls hst ?_
  refine l_arg C (k := 2) dW_812 dW_813 dW_815 dW_816 dW_817 (by decide) (by omega) hL hls hst ?_
  obtain ⟨XF, hx1, hm1⟩ := p_walk (xs (i + 1)) (xs (i + 2)) x hv
  refine l_call1 C (a := 0) (j := 128) (w := 996) (n := 2) (as := [.int (xs (i + 1)), .int (xs (i + 2))]) (rest := []) (d := 1200) dW_818 (by decide +kernel) rfl (by decide) (Nat.le_refl _) hx1 hls hst hcs (fun rv x1 H1 locs1 hp1 hst1 => ?_)
  obtain ⟨⟨z, rfl⟩, hp1⟩ := hp1
  refine lv_pop hx hb dW_821 rfl ?_
  refine l_a2 C dW_822 hls ?_
  refine l_arg C (k := 1) dW_823 dW_824 dW_826 dW_827 dW_828 (by decide) (by omega) hL hls hst1 ?_
  refine l_arg C (k := 2) dW_829 dW_830 dW_832 dW_833 dW_834 (by decide) (by omega) hL hls hst1 ?_
  refine l_call1 C (a := 314) (j := 223) (w := 1784) (n := 2) (as := [.int (xs (i + 1)), .int (xs (i + 2))]) (rest := []) (d := 1200) dW_835 (by decide +kernel) rfl (by decide) (Nat.le_refl _) (hm1 _ _ hp1) hls hst1 hcs (fun rv x2 H2 locs2 hp2 hst2 => ?_)
  obtain ⟨rfl, hv2⟩ := hp2
  refine lv_pop hx hb dW_838 rfl ?_
  refine l_go C dW_839 (by decide) ?_
  exact kk x2 H2 locs2 hv2 hst2
set_option maxHeartbeats 2000000 in
theorem lk_19 (C : lCx p l s mid meth c b L xs dC dI cA q sv qo) (hL : L ≤ 3072) (hi : i + 6 ≤ L) (hls : lv_has ls 7 (lvL b q qo i)) (hst : lSt s dC dI cA q qo x H locs) (hv : Inv x) (hcs : cells ≤ 601024 ∧ slots ≤ 7293033) (kk : ∀ (x' : xM) (H1 : Heap) (locs1 : List Loc), Inv x' → lSt s dC dI cA q qo x' H1 locs1 → W p l e room_1 s mid #[Value.ref b] below meth c H1 locs1 cells slots Q (F0 mid 1601 ls [])) : W p l e room_1 s mid #[Value.ref b] below meth c H locs cells slots Q (F0 mid 842 ls []) := by
  obtain ⟨hx, hb, hr, hml, hown, hts, -⟩ := id C.1
  have hown : s.vm.findClass RL = some mid.cls := hown
  refine l_a1 C dW_842 hls ?_
  refine l_arg C (k := 1) dW_843 dW_844 dW_846 dW_847 dW_848 (by decide) (by omega) hL hls hst ?_
  refine l_arg C (k := 2) dW_849 dW_850 dW_852 dW_853 dW_854 (by decide) (by omega) hL hls hst ?_
  refine l_cp C (a := 0) (idx := 104) (w := 1000) (n := 2) (vs := [.int (xs (i + 1)), .int (xs (i + 2))]) q225 (by decide) dW_855 dW_858 (by decide +kernel) rfl (by decide +kernel) (by decide +kernel) (fun z => trivial) ⟨aI_any _, aI_any _, trivial⟩ hv hls hst hcs (fun x1 H1 locs1 hv1 hst1 => ?_)
  refine l_a2 C dW_859 hls ?_
  refine l_arg C (k := 1) dW_860 dW_861 dW_863 dW_864 dW_865 (by decide) (by omega) hL hls hst1 ?_
  refine l_arg C (k := 2) dW_866 dW_867 dW_869 dW_870 dW_871 (by decide) (by omega) hL hls hst1 ?_
  refine l_cp C (a := 314) (idx := 107) (w := 1793) (n := 2) (vs := [.int (xs (i + 1)), .int (xs (i + 2))]) r147 (by decide) dW_872 dW_875 (by decide +kernel) rfl (by decide +kernel) (by decide +kernel) (fun z => z.2.1) ⟨aI_any _, aI_any _, trivial⟩ hv1 hls hst1 hcs (fun x2 H2 locs2 hv2 hst2 => ?_)
  refine l_go C dW_876 (by decide) ?_
  exact kk x2 H2 locs2 hv2 hst2
set_option maxHeartbeats 2000000 in
theorem lk_20 (C : lCx p l s mid meth c b L xs dC dI cA q sv qo) (hL : L ≤ 3072) (hi : i + 6 ≤ L) (hls : lv_has ls 7 (lvL b q qo i)) (hst : lSt s dC dI cA q qo x H locs) (hv : Inv x) (hcs : cells ≤ 601024 ∧ slots ≤ 7293033) (kk : ∀ (x' : xM) (H1 : Heap) (locs1 : List Loc), Inv x' → lSt s dC dI cA q qo x' H1 locs1 → W p l e room_1 s mid #[Value.ref b] below meth c H1 locs1 cells slots Q (F0 mid 1601 ls [])) : W p l e room_1 s mid #[Value.ref b] below meth c H locs cells slots Q (F0 mid 879 ls []) := by
  obtain ⟨hx, hb, hr, hml, hown, hts, -⟩ := id C.1
  have hown : s.vm.findClass RL = some mid.cls := hown
  refine l_a1 C dW_879 hls ?_
  refine l_arg C (k := 1) dW_880 dW_881 dW_883 dW_884 dW_885 (by decide) (by omega) hL hls hst ?_
  refine l_arg C (k := 2) dW_886 dW_887 dW_889 dW_890 dW_891 (by decide) (by omega) hL hls hst ?_
  refine l_cp C (a := 0) (idx := 108) (w := 1012) (n := 2) (vs := [.int (xs (i + 1)), .int (xs (i + 2))]) q226 (by decide) dW_892 dW_895 (by decide +kernel) rfl (by decide +kernel) (by decide +kernel) (fun z => trivial) ⟨aI_any _, aI_any _, trivial⟩ hv hls hst hcs (fun x1 H1 locs1 hv1 hst1 => ?_)
  refine l_a2 C dW_896 hls ?_
  refine l_arg C (k := 1) dW_897 dW_898 dW_900 dW_901 dW_902 (by decide) (by omega) hL hls hst1 ?_
  refine l_arg C (k := 2) dW_903 dW_904 dW_906 dW_907 dW_908 (by decide) (by omega) hL hls hst1 ?_
  refine l_cp C (a := 314) (idx := 111) (w := 1801) (n := 2) (vs := [.int (xs (i + 1)), .int (xs (i + 2))]) r148 (by decide) dW_909 dW_912 (by decide +kernel) rfl (by decide +kernel) (by decide +kernel) (fun z => z.2.1) ⟨aI_any _, aI_any _, trivial⟩ hv1 hls hst1 hcs (fun x2 H2 locs2 hv2 hst2 => ?_)
  refine l_go C dW_913 (by decide) ?_
  exact kk x2 H2 locs2 hv2 hst2
set_option maxHeartbeats 2000000 in
theorem lk_21 (C : lCx p l s mid meth c b L xs dC dI cA q sv qo) (hL : L ≤ 3072) (hi : i + 6 ≤ L) (hls : lv_has ls 7 (lvL b q qo i)) (hst : lSt s dC dI cA q qo x H locs) (hv : Inv x) (hcs : cells ≤ 601024 ∧ slots ≤ 7293033) (kk : ∀ (x' : xM) (H1 : Heap) (locs1 : List Loc), Inv x' → lSt s dC dI cA q qo x' H1 locs1 → W p l e room_1 s mid #[Value.ref b] below meth c H1 locs1 cells slots Q (F0 mid 1601 ls [])) : W p l e room_1 s mid #[Value.ref b] below meth c H locs cells slots Q (F0 mid 916 ls []) := by
  obtain ⟨hx, hb, hr, hml, hown, hts, -⟩ := id C.1
  have hown : s.vm.findClass RL = some mid.cls := hown
  refine l_a1 C dW_916 hls ?_
  refine l_arg C (k := 1) dW_917 dW_918 dW_920 dW_921 dW_922 (by decide) (by omega) hL hls hst ?_
  refine l_arg C (k := 2) dW_923 dW_924 dW_926 dW_927 dW_928 (by decide) (by omega) hL hls hst ?_
  refine l_cp C (a := 0) (idx := 112) (w := 1018) (n := 2) (vs := [.int (xs (i + 1)), .int (xs (i + 2))]) q229 (by decide) dW_929 dW_932 (by decide +kernel) rfl (by decide +kernel) (by decide +kernel) (fun z => trivial) ⟨aI_any _, aI_any _, trivial⟩ hv hls hst hcs (fun x1 H1 locs1 hv1 hst1 => ?_)
  refine l_a2 C dW_933 hls ?_
  refine l_arg C (k := 1) dW_934 dW_935 dW_937 dW_938 dW_939 (by decide) (by omega) hL hls hst1 ?_
  refine l_arg C (k := 2) dW_940 dW_941 dW_943 dW_944 dW_945 (by decide) (by omega) hL hls hst1 ?_
  refine l_cp C (a := 314) (idx := 115) (w := 1805) (n := 2) (vs := [.int (xs (i + 1)), .int (xs (i + 2))]) r149 (by decide) dW_946 dW_949 (by decide +kernel) rfl (by decide +kernel) (by decide +kernel) (fun z => z.2.1) ⟨aI_any _, aI_any _, trivial⟩ hv1 hls hst1 hcs (fun x2 H2 locs2 hv2 hst2 => ?_)
  refine l_go C dW_950 (by decide) ?_
  exact kk x2 H2 locs2 hv2 hst2
set_option maxHeartbeats 2000000 in
theorem lk_22 (C : lCx p l s mid meth c b L xs dC dI cA q sv qo) (hL : L ≤ 3072) (hi : i + 6 ≤ L) (hls : lv_has ls 7 (lvL b q qo i)) (hst : lSt s dC dI cA q qo x H locs) (hv : Inv x) (hcs : cells ≤ 601024 ∧ slots ≤ 7293033) (kk : ∀ (x' : xM) (H1 : Heap) (locs1 : List Loc), Inv x' → lSt s dC dI cA q qo x' H1 locs1 → W p l e room_1 s mid #[Value.ref b] below meth c H1 locs1 cells slots Q (F0 mid 1601 ls [])) : W p l e room_1 s mid #[Value.ref b] below meth c H locs cells slots Q (F0 mid 953 ls []) := by
  obtain ⟨hx, hb, hr, hml, hown, hts, -⟩ := id C.1
  have hown : s.vm.findClass RL = some mid.cls := hown
  refine l_a1 C dW_953 hls ?_
  refine l_arg C (k := 1) dW_954 dW_955 dW_957 dW_958 dW_959 (by decide) (by omega) hL hls hst ?_
  refine l_arg C (k := 2) dW_960 dW_961 dW_963 dW_964 dW_965 (by decide) (by omega) hL hls hst ?_
  refine l_cp C (a := 0) (idx := 116) (w := 1030) (n := 2) (vs := [.int (xs (i + 1)), .int (xs (i + 2))]) q240 (by decide) dW_966 dW_969 (by decide +kernel) rfl (by decide +kernel) (by decide +kernel) (fun z => trivial) ⟨aI_any _, aI_any _, trivial⟩ hv hls hst hcs (fun x1 H1 locs1 hv1 hst1 => ?_)
  refine l_a2 C dW_970 hls ?_
  refine l_arg C (k := 1) dW_971 dW_972 dW_974 dW_975 dW_976 (by decide) (by omega) hL hls hst1 ?_
  refine l_arg C (k := 2) dW_977 dW_978 dW_980 dW_981 dW_982 (by decide) (by omega) hL hls hst1 ?_
  refine l_cp C (a := 314) (idx := 119) (w := 1813) (n := 2) (vs := [.int (xs (i + 1)), .int (xs (i + 2))]) r150 (by decide) dW_983 dW_986 (by decide +kernel) rfl (by decide +kernel) (by decide +kernel) (fun z => z.2.1) ⟨aI_any _, aI_any _, trivial⟩ hv1 hls hst1 hcs (fun x2 H2 locs2 hv2 hst2 => ?_)
  refine l_go C dW_987 (by decide) ?_
  exact kk x2 H2 locs2 hv2 hst2
set_option maxHeartbeats 2000000 in
theorem lk_23 (C : lCx p l s mid meth c b L xs dC dI cA q sv qo) (hL : L ≤ 3072) (hi : i + 6 ≤ L) (hls : lv_has ls 7 (lvL b q qo i)) (hst : lSt s dC dI cA q qo x H locs) (hv : Inv x) (hcs : cells ≤ 601024 ∧ slots ≤ 7293033) (kk : ∀ (x' : xM) (H1 : Heap) (locs1 : List Loc), Inv x' → lSt s dC dI cA q qo x' H1 locs1 → W p l e room_1 s mid #[Value.ref b] below meth c H1 locs1 cells slots Q (F0 mid 1601 ls [])) : W p l e room_1 s mid #[Value.ref b] below meth c H locs cells slots Q (F0 mid 990 ls []) := by
  obtain ⟨hx, hb, hr, hml, hown, hts, -⟩ := id C.1
  have hown : s.vm.findClass RL = some mid.cls := hown
  refine l_a1 C dW_990 hls ?_
  refine l_arg C (k := 1) dW_991 dW_992 dW_994 dW_995 dW_996 (by decide) (by omega) hL hls hst ?_
  refine l_cp C (a := 0) (idx := 120) (w := 1067) (n := 1) (vs := [.int (xs (i + 1))]) q248 (by decide) dW_997 dW_1000 (by decide +kernel) rfl (by decide +kernel) (by decide +kernel) (fun z => trivial) ⟨aI_any _, trivial⟩ hv hls hst hcs (fun x1 H1 locs1 hv1 hst1 => ?_)
  refine l_a2 C dW_1001 hls ?_
  refine l_arg C (k := 1) dW_1002 dW_1003 dW_1005 dW_1006 dW_1007 (by decide) (by omega) hL hls hst1 ?_
  refine l_cp C (a := 314) (idx := 123) (w := 1821) (n := 1) (vs := [.int (xs (i + 1))]) r155 (by decide) dW_1008 dW_1011 (by decide +kernel) rfl (by decide +kernel) (by decide +kernel) (fun z => z.2.1) ⟨aI_any _, trivial⟩ hv1 hls hst1 hcs (fun x2 H2 locs2 hv2 hst2 => ?_)
  refine l_go C dW_1012 (by decide) ?_
  exact kk x2 H2 locs2 hv2 hst2
set_option maxHeartbeats 2000000 in
theorem lk_24 (C : lCx p l s mid meth c b L xs dC dI cA q sv qo) (hL : L ≤ 3072) (hi : i + 6 ≤ L) (hls : lv_has ls 7 (lvL b q qo i)) (hst : lSt s dC dI cA q qo x H locs) (hv : Inv x) (hcs : cells ≤ 601024 ∧ slots ≤ 7293033) (kk : ∀ (x' : xM) (H1 : Heap) (locs1 : List Loc), Inv x' → lSt s dC dI cA q qo x' H1 locs1 → W p l e room_1 s mid #[Value.ref b] below meth c H1 locs1 cells slots Q (F0 mid 1601 ls [])) : W p l e room_1 s mid #[Value.ref b] below meth c H locs cells slots Q (F0 mid 1015 ls []) := by
  obtain ⟨hx, hb, hr, hml, hown, hts, -⟩ := id C.1
  have hown : s.vm.findClass RL = some mid.cls := hown
  refine l_a1 C dW_1015 hls ?_
  refine l_arg C (k := 1) dW_1016 dW_1017 dW_1019 dW_1020 dW_1021 (by decide) (by omega) hL hls hst ?_
  refine l_arg C (k := 2) dW_1022 dW_1023 dW_1025 dW_1026 dW_1027 (by decide) (by omega) hL hls hst ?_
  refine l_cp C (a := 0) (idx := 124) (w := 1071) (n := 2) (vs := [.int (xs (i + 1)), .int (xs (i + 2))]) q249 (by decide) dW_1028 dW_1031 (by decide +kernel) rfl (by decide +kernel) (by decide +kernel) (fun z => trivial) ⟨aI_any _, aI_any _, trivial⟩ hv hls hst hcs (fun x1 H1 locs1 hv1 hst1 => ?_)
  refine l_a2 C dW_1032 hls ?_
  refine l_arg C (k := 1) dW_1033 dW_1034 dW_1036 dW_1037 dW_1038 (by decide) (by omega) hL hls hst1 ?_
  refine l_arg C (k := 2) dW_1039 dW_1040 dW_1042 dW_1043 dW_1044 (by decide) (by omega) hL hls hst1 ?_
  refine l_cp C (a := 314) (idx := 127) (w := 1828) (n := 2) (vs := [.int (xs (i + 1)), .int (xs (i + 2))]) r157 (by decide) dW_1045 dW_1048 (by decide +kernel) rfl (by decide +kernel) (by decide +kernel) (fun z => z.2.1) ⟨aI_any _, aI_any _, trivial⟩ hv1 hls hst1 hcs (fun x2 H2 locs2 hv2 hst2 => ?_)
  refine l_go C dW_1049 (by decide) ?_
  exact kk x2 H2 locs2 hv2 hst2
set_option maxHeartbeats 2000000 in
theorem lk_25 (C : lCx p l s mid meth c b L xs dC dI cA q sv qo) (hL : L ≤ 3072) (hi : i + 6 ≤ L) (hls : lv_has ls 7 (lvL b q qo i)) (hst : lSt s dC dI cA q qo x H locs) (hv : Inv x) (hcs : cells ≤ 601024 ∧ slots ≤ 7293033) (kk : ∀ (x' : xM) (H1 : Heap) (locs1 : List Loc), Inv x' → lSt s dC dI cA q qo x' H1 locs1 → W p l e room_1 s mid #[Value.ref b] below meth c H1 locs1 cells slots Q (F0 mid 1601 ls [])) : W p l e room_1 s mid #[Value.ref b] below meth c H locs cells slots Q (F0 mid 1052 ls []) := by
  obtain ⟨hx, hb, hr, hml, hown, hts, -⟩ := id C.1
  have hown : s.vm.findClass RL = some mid.cls := hown
  refine l_a1 C dW_1052 hls ?_
  refine l_arg C (k := 1) dW_1053 dW_1054 dW_1056 dW_1057 dW_1058 (by decide) (by omega) hL hls hst ?_
  refine l_arg C (k := 2) dW_1059 dW_1060 dW_1062 dW_1063 dW_1064 (by decide) (by omega) hL hls hst ?_
  refine lv_tern (a := 1) (b := 0) hx hb dW_1065 (by decide) dW_1068 (by decide) dW_1069 (by decide) dW_1072 (by decide) rfl (fun y1 ey1 => ?_)
  obtain ⟨XF, hx1, hm1⟩ := p_seen (xs (i + 1)) y1 (bo_t ey1) x hv
  refine l_call1 C (a := 0) (j := 136) (w := 1075) (n := 2) (as := [.int (xs (i + 1)), .int y1]) (rest := []) (d := 1200) dW_1073 (by decide +kernel) rfl (by decide) (Nat.le_refl _) hx1 hls hst hcs (fun rv x1 H1 locs1 hp1 hst1 => ?_)
  obtain ⟨⟨z, rfl⟩, hp1⟩ := hp1
  refine lv_pop hx hb dW_1076 rfl ?_
  refine l_a2 C dW_1077 hls ?_
  refine l_arg C (k := 1) dW_1078 dW_1079 dW_1081 dW_1082 dW_1083 (by decide) (by omega) hL hls hst1 ?_
  refine l_arg C (k := 2) dW_1084 dW_1085 dW_1087 dW_1088 dW_1089 (by decide) (by omega) hL hls hst1 ?_
  refine lv_tern (a := 1) (b := 0) hx hb dW_1090 (by decide) dW_1093 (by decide) dW_1094 (by decide) dW_1097 (by decide) rfl (fun y2 ey2 => ?_)
  rw [show y2 = y1 by rw [ey2, ey1]]
  refine l_call1 C (a := 314) (j := 233) (w := 1833) (n := 2) (as := [.int (xs (i + 1)), .int y1]) (rest := []) (d := 1200) dW_1098 (by decide +kernel) rfl (by decide) (Nat.le_refl _) (hm1 _ _ hp1) hls hst1 hcs (fun rv x2 H2 locs2 hp2 hst2 => ?_)
  obtain ⟨rfl, hv2⟩ := hp2
  refine lv_pop hx hb dW_1101 rfl ?_
  refine l_go C dW_1102 (by decide) ?_
  exact kk x2 H2 locs2 hv2 hst2
set_option maxHeartbeats 2000000 in
theorem lk_26 (C : lCx p l s mid meth c b L xs dC dI cA q sv qo) (hL : L ≤ 3072) (hi : i + 6 ≤ L) (hls : lv_has ls 7 (lvL b q qo i)) (hst : lSt s dC dI cA q qo x H locs) (hv : Inv x) (hcs : cells ≤ 601024 ∧ slots ≤ 7293033) (kk : ∀ (x' : xM) (H1 : Heap) (locs1 : List Loc), Inv x' → lSt s dC dI cA q qo x' H1 locs1 → W p l e room_1 s mid #[Value.ref b] below meth c H1 locs1 cells slots Q (F0 mid 1601 ls [])) : W p l e room_1 s mid #[Value.ref b] below meth c H locs cells slots Q (F0 mid 1105 ls []) := by
  obtain ⟨hx, hb, hr, hml, hown, hts, -⟩ := id C.1
  have hown : s.vm.findClass RL = some mid.cls := hown
  refine l_a1 C dW_1105 hls ?_
  refine l_arg C (k := 1) dW_1106 dW_1107 dW_1109 dW_1110 dW_1111 (by decide) (by omega) hL hls hst ?_
  refine l_cp C (a := 0) (idx := 133) (w := 1083) (n := 1) (vs := [.int (xs (i + 1))]) q254 (by decide) dW_1112 dW_1115 (by decide +kernel) rfl (by decide +kernel) (by decide +kernel) (fun z => trivial) ⟨aI_any _, trivial⟩ hv hls hst hcs (fun x1 H1 locs1 hv1 hst1 => ?_)
  refine l_a2 C dW_1116 hls ?_
  refine l_arg C (k := 1) dW_1117 dW_1118 dW_1120 dW_1121 dW_1122 (by decide) (by omega) hL hls hst1 ?_
  refine l_cp C (a := 314) (idx := 136) (w := 1837) (n := 1) (vs := [.int (xs (i + 1))]) r163 (by decide) dW_1123 dW_1126 (by decide +kernel) rfl (by decide +kernel) (by decide +kernel) (fun z => z.2.1) ⟨aI_any _, trivial⟩ hv1 hls hst1 hcs (fun x2 H2 locs2 hv2 hst2 => ?_)
  refine l_go C dW_1127 (by decide) ?_
  exact kk x2 H2 locs2 hv2 hst2
set_option maxHeartbeats 2000000 in
theorem lk_27 (C : lCx p l s mid meth c b L xs dC dI cA q sv qo) (hL : L ≤ 3072) (hi : i + 6 ≤ L) (hls : lv_has ls 7 (lvL b q qo i)) (hst : lSt s dC dI cA q qo x H locs) (hv : Inv x) (hcs : cells ≤ 601024 ∧ slots ≤ 7293033) (kk : ∀ (x' : xM) (H1 : Heap) (locs1 : List Loc), Inv x' → lSt s dC dI cA q qo x' H1 locs1 → W p l e room_1 s mid #[Value.ref b] below meth c H1 locs1 cells slots Q (F0 mid 1601 ls [])) : W p l e room_1 s mid #[Value.ref b] below meth c H locs cells slots Q (F0 mid 1130 ls []) := by
  obtain ⟨hx, hb, hr, hml, hown, hts, -⟩ := id C.1
  have hown : s.vm.findClass RL = some mid.cls := hown
  refine l_a1 C dW_1130 hls ?_
  refine l_cp C (a := 0) (idx := 137) (w := 1097) (n := 0) (vs := []) q257 (by decide) dW_1131 dW_1134 (by decide +kernel) rfl (by decide +kernel) (by decide +kernel) (fun z => trivial) trivial hv hls hst hcs (fun x1 H1 locs1 hv1 hst1 => ?_)
  refine l_a2 C dW_1135 hls ?_
  refine l_cp C (a := 314) (idx := 140) (w := 1853) (n := 0) (vs := []) r171 (by decide) dW_1136 dW_1139 (by decide +kernel) rfl (by decide +kernel) (by decide +kernel) (fun z => z.2.1) trivial hv1 hls hst1 hcs (fun x2 H2 locs2 hv2 hst2 => ?_)
  refine l_go C dW_1140 (by decide) ?_
  exact kk x2 H2 locs2 hv2 hst2
set_option maxHeartbeats 2000000 in
theorem lk_28 (C : lCx p l s mid meth c b L xs dC dI cA q sv qo) (hL : L ≤ 3072) (hi : i + 6 ≤ L) (hls : lv_has ls 7 (lvL b q qo i)) (hst : lSt s dC dI cA q qo x H locs) (hv : Inv x) (hcs : cells ≤ 601024 ∧ slots ≤ 7293033) (kk : ∀ (x' : xM) (H1 : Heap) (locs1 : List Loc), Inv x' → lSt s dC dI cA q qo x' H1 locs1 → W p l e room_1 s mid #[Value.ref b] below meth c H1 locs1 cells slots Q (F0 mid 1601 ls [])) : W p l e room_1 s mid #[Value.ref b] below meth c H locs cells slots Q (F0 mid 1143 ls []) := by
  obtain ⟨hx, hb, hr, hml, hown, hts, -⟩ := id C.1
  have hown : s.vm.findClass RL = some mid.cls := hown
  refine l_a1 C dW_1143 hls ?_
  refine l_arg C (k := 1) dW_1144 dW_1145 dW_1147 dW_1148 dW_1149 (by decide) (by omega) hL hls hst ?_
  refine l_cp C (a := 0) (idx := 141) (w := 1108) (n := 1) (vs := [.int (xs (i + 1))]) q258 (by decide) dW_1150 dW_1153 (by decide +kernel) rfl (by decide +kernel) (by decide +kernel) (fun z => trivial) ⟨aI_any _, trivial⟩ hv hls hst hcs (fun x1 H1 locs1 hv1 hst1 => ?_)
  refine l_a2 C dW_1154 hls ?_
  refine l_arg C (k := 1) dW_1155 dW_1156 dW_1158 dW_1159 dW_1160 (by decide) (by omega) hL hls hst1 ?_
  refine l_cp C (a := 314) (idx := 144) (w := 1858) (n := 1) (vs := [.int (xs (i + 1))]) r173 (by decide) dW_1161 dW_1164 (by decide +kernel) rfl (by decide +kernel) (by decide +kernel) (fun z => z.2.1) ⟨aI_any _, trivial⟩ hv1 hls hst1 hcs (fun x2 H2 locs2 hv2 hst2 => ?_)
  refine l_go C dW_1165 (by decide) ?_
  exact kk x2 H2 locs2 hv2 hst2
set_option maxHeartbeats 2000000 in
theorem lk_29 (C : lCx p l s mid meth c b L xs dC dI cA q sv qo) (hL : L ≤ 3072) (hi : i + 6 ≤ L) (hls : lv_has ls 7 (lvL b q qo i)) (hst : lSt s dC dI cA q qo x H locs) (hv : Inv x) (hcs : cells ≤ 601024 ∧ slots ≤ 7293033) (kk : ∀ (x' : xM) (H1 : Heap) (locs1 : List Loc), Inv x' → lSt s dC dI cA q qo x' H1 locs1 → W p l e room_1 s mid #[Value.ref b] below meth c H1 locs1 cells slots Q (F0 mid 1601 ls [])) : W p l e room_1 s mid #[Value.ref b] below meth c H locs cells slots Q (F0 mid 1168 ls []) := by
  obtain ⟨hx, hb, hr, hml, hown, hts, -⟩ := id C.1
  have hown : s.vm.findClass RL = some mid.cls := hown
  refine l_a1 C dW_1168 hls ?_
  refine l_arg C (k := 1) dW_1169 dW_1170 dW_1172 dW_1173 dW_1174 (by decide) (by omega) hL hls hst ?_
  refine l_arg C (k := 2) dW_1175 dW_1176 dW_1178 dW_1179 dW_1180 (by decide) (by omega) hL hls hst ?_
  refine l_cp C (a := 0) (idx := 145) (w := 1113) (n := 2) (vs := [.int (xs (i + 1)), .int (xs (i + 2))]) q259 (by decide) dW_1181 dW_1184 (by decide +kernel) rfl (by decide +kernel) (by decide +kernel) (fun z => trivial) ⟨aI_any _, aI_any _, trivial⟩ hv hls hst hcs (fun x1 H1 locs1 hv1 hst1 => ?_)
  refine l_a2 C dW_1185 hls ?_
  refine l_arg C (k := 1) dW_1186 dW_1187 dW_1189 dW_1190 dW_1191 (by decide) (by omega) hL hls hst1 ?_
  refine l_arg C (k := 2) dW_1192 dW_1193 dW_1195 dW_1196 dW_1197 (by decide) (by omega) hL hls hst1 ?_
  refine l_cp C (a := 314) (idx := 148) (w := 1862) (n := 2) (vs := [.int (xs (i + 1)), .int (xs (i + 2))]) r174 (by decide) dW_1198 dW_1201 (by decide +kernel) rfl (by decide +kernel) (by decide +kernel) (fun z => z.2.1) ⟨aI_any _, aI_any _, trivial⟩ hv1 hls hst1 hcs (fun x2 H2 locs2 hv2 hst2 => ?_)
  refine l_go C dW_1202 (by decide) ?_
  exact kk x2 H2 locs2 hv2 hst2
set_option maxHeartbeats 2000000 in
theorem lk_30 (C : lCx p l s mid meth c b L xs dC dI cA q sv qo) (hL : L ≤ 3072) (hi : i + 6 ≤ L) (hls : lv_has ls 7 (lvL b q qo i)) (hst : lSt s dC dI cA q qo x H locs) (hv : Inv x) (hcs : cells ≤ 601024 ∧ slots ≤ 7293033) (kk : ∀ (x' : xM) (H1 : Heap) (locs1 : List Loc), Inv x' → lSt s dC dI cA q qo x' H1 locs1 → W p l e room_1 s mid #[Value.ref b] below meth c H1 locs1 cells slots Q (F0 mid 1601 ls [])) : W p l e room_1 s mid #[Value.ref b] below meth c H locs cells slots Q (F0 mid 1205 ls []) := by
  obtain ⟨hx, hb, hr, hml, hown, hts, -⟩ := id C.1
  have hown : s.vm.findClass RL = some mid.cls := hown
  refine l_a1 C dW_1205 hls ?_
  refine l_arg C (k := 1) dW_1206 dW_1207 dW_1209 dW_1210 dW_1211 (by decide) (by omega) hL hls hst ?_
  refine l_arg C (k := 2) dW_1212 dW_1213 dW_1215 dW_1216 dW_1217 (by decide) (by omega) hL hls hst ?_
  refine l_cp C (a := 0) (idx := 149) (w := 1117) (n := 2) (vs := [.int (xs (i + 1)), .int (xs (i + 2))]) q260 (by decide) dW_1218 dW_1221 (by decide +kernel) rfl (by decide +kernel) (by decide +kernel) (fun z => trivial) ⟨aI_any _, aI_any _, trivial⟩ hv hls hst hcs (fun x1 H1 locs1 hv1 hst1 => ?_)
  refine l_a2 C dW_1222 hls ?_
  refine l_arg C (k := 1) dW_1223 dW_1224 dW_1226 dW_1227 dW_1228 (by decide) (by omega) hL hls hst1 ?_
  refine l_arg C (k := 2) dW_1229 dW_1230 dW_1232 dW_1233 dW_1234 (by decide) (by omega) hL hls hst1 ?_
  refine l_cp C (a := 314) (idx := 152) (w := 1870) (n := 2) (vs := [.int (xs (i + 1)), .int (xs (i + 2))]) r175 (by decide) dW_1235 dW_1238 (by decide +kernel) rfl (by decide +kernel) (by decide +kernel) (fun z => z.2.1) ⟨aI_any _, aI_any _, trivial⟩ hv1 hls hst1 hcs (fun x2 H2 locs2 hv2 hst2 => ?_)
  refine l_go C dW_1239 (by decide) ?_
  exact kk x2 H2 locs2 hv2 hst2
set_option maxHeartbeats 2000000 in
theorem lk_31 (C : lCx p l s mid meth c b L xs dC dI cA q sv qo) (hL : L ≤ 3072) (hi : i + 6 ≤ L) (hls : lv_has ls 7 (lvL b q qo i)) (hst : lSt s dC dI cA q qo x H locs) (hv : Inv x) (hcs : cells ≤ 601024 ∧ slots ≤ 7293033) (kk : ∀ (x' : xM) (H1 : Heap) (locs1 : List Loc), Inv x' → lSt s dC dI cA q qo x' H1 locs1 → W p l e room_1 s mid #[Value.ref b] below meth c H1 locs1 cells slots Q (F0 mid 1601 ls [])) : W p l e room_1 s mid #[Value.ref b] below meth c H locs cells slots Q (F0 mid 1242 ls []) := by
  obtain ⟨hx, hb, hr, hml, hown, hts, -⟩ := id C.1
  have hown : s.vm.findClass RL = some mid.cls := hown
  refine l_a1 C dW_1242 hls ?_
  refine l_arg C (k := 1) dW_1243 dW_1244 dW_1246 dW_1247 dW_1248 (by decide) (by omega) hL hls hst ?_
  refine l_cp C (a := 0) (idx := 153) (w := 1122) (n := 1) (vs := [.int (xs (i + 1))]) q261 (by decide) dW_1249 dW_1252 (by decide +kernel) rfl (by decide +kernel) (by decide +kernel) (fun z => trivial) ⟨aI_any _, trivial⟩ hv hls hst hcs (fun x1 H1 locs1 hv1 hst1 => ?_)
  refine l_a2 C dW_1253 hls ?_
  refine l_arg C (k := 1) dW_1254 dW_1255 dW_1257 dW_1258 dW_1259 (by decide) (by omega) hL hls hst1 ?_
  refine l_cp C (a := 314) (idx := 156) (w := 1874) (n := 1) (vs := [.int (xs (i + 1))]) r176 (by decide) dW_1260 dW_1263 (by decide +kernel) rfl (by decide +kernel) (by decide +kernel) (fun z => z.2.1) ⟨aI_any _, trivial⟩ hv1 hls hst1 hcs (fun x2 H2 locs2 hv2 hst2 => ?_)
  refine l_go C dW_1264 (by decide) ?_
  exact kk x2 H2 locs2 hv2 hst2
set_option maxHeartbeats 2000000 in
theorem lk_32 (C : lCx p l s mid meth c b L xs dC dI cA q sv qo) (hL : L ≤ 3072) (hi : i + 6 ≤ L) (hls : lv_has ls 7 (lvL b q qo i)) (hst : lSt s dC dI cA q qo x H locs) (hv : Inv x) (hcs : cells ≤ 601024 ∧ slots ≤ 7293033) (kk : ∀ (x' : xM) (H1 : Heap) (locs1 : List Loc), Inv x' → lSt s dC dI cA q qo x' H1 locs1 → W p l e room_1 s mid #[Value.ref b] below meth c H1 locs1 cells slots Q (F0 mid 1601 ls [])) : W p l e room_1 s mid #[Value.ref b] below meth c H locs cells slots Q (F0 mid 1267 ls []) := by
  obtain ⟨hx, hb, hr, hml, hown, hts, -⟩ := id C.1
  have hown : s.vm.findClass RL = some mid.cls := hown
  refine l_a1 C dW_1267 hls ?_
  refine l_arg C (k := 1) dW_1268 dW_1269 dW_1271 dW_1272 dW_1273 (by decide) (by omega) hL hls hst ?_
  refine l_cp C (a := 0) (idx := 157) (w := 1127) (n := 1) (vs := [.int (xs (i + 1))]) q262 (by decide) dW_1274 dW_1277 (by decide +kernel) rfl (by decide +kernel) (by decide +kernel) (fun z => trivial) ⟨aI_any _, trivial⟩ hv hls hst hcs (fun x1 H1 locs1 hv1 hst1 => ?_)
  refine l_a2 C dW_1278 hls ?_
  refine l_arg C (k := 1) dW_1279 dW_1280 dW_1282 dW_1283 dW_1284 (by decide) (by omega) hL hls hst1 ?_
  refine l_cp C (a := 314) (idx := 160) (w := 1878) (n := 1) (vs := [.int (xs (i + 1))]) r177 (by decide) dW_1285 dW_1288 (by decide +kernel) rfl (by decide +kernel) (by decide +kernel) (fun z => z.2.1) ⟨aI_any _, trivial⟩ hv1 hls hst1 hcs (fun x2 H2 locs2 hv2 hst2 => ?_)
  refine l_go C dW_1289 (by decide) ?_
  exact kk x2 H2 locs2 hv2 hst2
set_option maxHeartbeats 2000000 in
theorem lk_33 (C : lCx p l s mid meth c b L xs dC dI cA q sv qo) (hL : L ≤ 3072) (hi : i + 6 ≤ L) (hls : lv_has ls 7 (lvL b q qo i)) (hst : lSt s dC dI cA q qo x H locs) (hv : Inv x) (hcs : cells ≤ 601024 ∧ slots ≤ 7293033) (kk : ∀ (x' : xM) (H1 : Heap) (locs1 : List Loc), Inv x' → lSt s dC dI cA q qo x' H1 locs1 → W p l e room_1 s mid #[Value.ref b] below meth c H1 locs1 cells slots Q (F0 mid 1601 ls [])) : W p l e room_1 s mid #[Value.ref b] below meth c H locs cells slots Q (F0 mid 1292 ls []) := by
  obtain ⟨hx, hb, hr, hml, hown, hts, -⟩ := id C.1
  have hown : s.vm.findClass RL = some mid.cls := hown
  refine l_a1 C dW_1292 hls ?_
  refine l_arg C (k := 1) dW_1293 dW_1294 dW_1296 dW_1297 dW_1298 (by decide) (by omega) hL hls hst ?_
  refine l_arg C (k := 2) dW_1299 dW_1300 dW_1302 dW_1303 dW_1304 (by decide) (by omega) hL hls hst ?_
  refine l_arg C (k := 3) dW_1305 dW_1306 dW_1308 dW_1309 dW_1310 (by decide) (by omega) hL hls hst ?_
  refine l_arg C (k := 4) dW_1311 dW_1312 dW_1314 dW_1315 dW_1316 (by decide) (by omega) hL hls hst ?_
  refine l_arg C (k := 5) dW_1317 dW_1318 dW_1320 dW_1321 dW_1322 (by decide) (by omega) hL hls hst ?_
  refine l_cp C (a := 0) (idx := 161) (w := 1131) (n := 5) (vs := [.int (xs (i + 1)), .int (xs (i + 2)), .int (xs (i + 3)), .int (xs (i + 4)), .int (xs (i + 5))]) q265 (by decide) dW_1323 dW_1326 (by decide +kernel) rfl (by decide +kernel) (by decide +kernel) (fun z => trivial) ⟨aI_any _, aI_any _, aI_any _, aI_any _, aI_any _, trivial⟩ hv hls hst hcs (fun x1 H1 locs1 hv1 hst1 => ?_)
  refine l_a2 C dW_1327 hls ?_
  refine l_arg C (k := 1) dW_1328 dW_1329 dW_1331 dW_1332 dW_1333 (by decide) (by omega) hL hls hst1 ?_
  refine l_arg C (k := 2) dW_1334 dW_1335 dW_1337 dW_1338 dW_1339 (by decide) (by omega) hL hls hst1 ?_
  refine l_arg C (k := 3) dW_1340 dW_1341 dW_1343 dW_1344 dW_1345 (by decide) (by omega) hL hls hst1 ?_
  refine l_arg C (k := 4) dW_1346 dW_1347 dW_1349 dW_1350 dW_1351 (by decide) (by omega) hL hls hst1 ?_
  refine l_arg C (k := 5) dW_1352 dW_1353 dW_1355 dW_1356 dW_1357 (by decide) (by omega) hL hls hst1 ?_
  refine l_cp C (a := 314) (idx := 164) (w := 1882) (n := 5) (vs := [.int (xs (i + 1)), .int (xs (i + 2)), .int (xs (i + 3)), .int (xs (i + 4)), .int (xs (i + 5))]) r180 (by decide) dW_1358 dW_1361 (by decide +kernel) rfl (by decide +kernel) (by decide +kernel) (fun z => z.2.1) ⟨aI_any _, aI_any _, aI_any _, aI_any _, aI_any _, trivial⟩ hv1 hls hst1 hcs (fun x2 H2 locs2 hv2 hst2 => ?_)
  refine l_go C dW_1362 (by decide) ?_
  exact kk x2 H2 locs2 hv2 hst2
set_option maxHeartbeats 2000000 in
theorem lk_34 (C : lCx p l s mid meth c b L xs dC dI cA q sv qo) (hL : L ≤ 3072) (hi : i + 6 ≤ L) (hls : lv_has ls 7 (lvL b q qo i)) (hst : lSt s dC dI cA q qo x H locs) (hv : Inv x) (hcs : cells ≤ 601024 ∧ slots ≤ 7293033) (kk : ∀ (x' : xM) (H1 : Heap) (locs1 : List Loc), Inv x' → lSt s dC dI cA q qo x' H1 locs1 → W p l e room_1 s mid #[Value.ref b] below meth c H1 locs1 cells slots Q (F0 mid 1601 ls [])) : W p l e room_1 s mid #[Value.ref b] below meth c H locs cells slots Q (F0 mid 1365 ls []) := by
  obtain ⟨hx, hb, hr, hml, hown, hts, -⟩ := id C.1
  have hown : s.vm.findClass RL = some mid.cls := hown
  refine l_a1 C dW_1365 hls ?_
  refine l_arg C (k := 1) dW_1366 dW_1367 dW_1369 dW_1370 dW_1371 (by decide) (by omega) hL hls hst ?_
  refine l_arg C (k := 2) dW_1372 dW_1373 dW_1375 dW_1376 dW_1377 (by decide) (by omega) hL hls hst ?_
  refine l_arg C (k := 3) dW_1378 dW_1379 dW_1381 dW_1382 dW_1383 (by decide) (by omega) hL hls hst ?_
  refine l_cp C (a := 0) (idx := 165) (w := 1143) (n := 3) (vs := [.int (xs (i + 1)), .int (xs (i + 2)), .int (xs (i + 3))]) q267 (by decide) dW_1384 dW_1387 (by decide +kernel) rfl (by decide +kernel) (by decide +kernel) (fun z => trivial) ⟨aI_any _, aI_any _, aI_any _, trivial⟩ hv hls hst hcs (fun x1 H1 locs1 hv1 hst1 => ?_)
  refine l_a2 C dW_1388 hls ?_
  refine l_arg C (k := 1) dW_1389 dW_1390 dW_1392 dW_1393 dW_1394 (by decide) (by omega) hL hls hst1 ?_
  refine l_arg C (k := 2) dW_1395 dW_1396 dW_1398 dW_1399 dW_1400 (by decide) (by omega) hL hls hst1 ?_
  refine l_arg C (k := 3) dW_1401 dW_1402 dW_1404 dW_1405 dW_1406 (by decide) (by omega) hL hls hst1 ?_
  refine l_cp C (a := 314) (idx := 169) (w := 1895) (n := 3) (vs := [.int (xs (i + 1)), .int (xs (i + 2)), .int (xs (i + 3))]) r181 (by decide) dW_1407 dW_1410 (by decide +kernel) rfl (by decide +kernel) (by decide +kernel) (fun z => z.2.1) ⟨aI_any _, aI_any _, aI_any _, trivial⟩ hv1 hls hst1 hcs (fun x2 H2 locs2 hv2 hst2 => ?_)
  refine l_go C dW_1411 (by decide) ?_
  exact kk x2 H2 locs2 hv2 hst2
set_option maxHeartbeats 2000000 in
theorem lk_35 (C : lCx p l s mid meth c b L xs dC dI cA q sv qo) (hL : L ≤ 3072) (hi : i + 6 ≤ L) (hls : lv_has ls 7 (lvL b q qo i)) (hst : lSt s dC dI cA q qo x H locs) (hv : Inv x) (hcs : cells ≤ 601024 ∧ slots ≤ 7293033) (kk : ∀ (x' : xM) (H1 : Heap) (locs1 : List Loc), Inv x' → lSt s dC dI cA q qo x' H1 locs1 → W p l e room_1 s mid #[Value.ref b] below meth c H1 locs1 cells slots Q (F0 mid 1601 ls [])) : W p l e room_1 s mid #[Value.ref b] below meth c H locs cells slots Q (F0 mid 1414 ls []) := by
  obtain ⟨hx, hb, hr, hml, hown, hts, -⟩ := id C.1
  have hown : s.vm.findClass RL = some mid.cls := hown
  refine l_a1 C dW_1414 hls ?_
  refine l_arg C (k := 1) dW_1415 dW_1416 dW_1418 dW_1419 dW_1420 (by decide) (by omega) hL hls hst ?_
  refine l_arg C (k := 2) dW_1421 dW_1422 dW_1424 dW_1425 dW_1426 (by decide) (by omega) hL hls hst ?_
  refine l_cp C (a := 0) (idx := 170) (w := 1152) (n := 2) (vs := [.int (xs (i + 1)), .int (xs (i + 2))]) q268 (by decide) dW_1427 dW_1430 (by decide +kernel) rfl (by decide +kernel) (by decide +kernel) (fun z => trivial) ⟨aI_any _, aI_any _, trivial⟩ hv hls hst hcs (fun x1 H1 locs1 hv1 hst1 => ?_)
  refine l_a2 C dW_1431 hls ?_
  refine l_arg C (k := 1) dW_1432 dW_1433 dW_1435 dW_1436 dW_1437 (by decide) (by omega) hL hls hst1 ?_
  refine l_arg C (k := 2) dW_1438 dW_1439 dW_1441 dW_1442 dW_1443 (by decide) (by omega) hL hls hst1 ?_
  refine l_cp C (a := 314) (idx := 173) (w := 1899) (n := 2) (vs := [.int (xs (i + 1)), .int (xs (i + 2))]) r183 (by decide) dW_1444 dW_1447 (by decide +kernel) rfl (by decide +kernel) (by decide +kernel) (fun z => z.2.1) ⟨aI_any _, aI_any _, trivial⟩ hv1 hls hst1 hcs (fun x2 H2 locs2 hv2 hst2 => ?_)
  refine l_go C dW_1448 (by decide) ?_
  exact kk x2 H2 locs2 hv2 hst2
set_option maxHeartbeats 2000000 in
theorem lk_36 (C : lCx p l s mid meth c b L xs dC dI cA q sv qo) (hL : L ≤ 3072) (hi : i + 6 ≤ L) (hls : lv_has ls 7 (lvL b q qo i)) (hst : lSt s dC dI cA q qo x H locs) (hv : Inv x) (hcs : cells ≤ 601024 ∧ slots ≤ 7293033) (kk : ∀ (x' : xM) (H1 : Heap) (locs1 : List Loc), Inv x' → lSt s dC dI cA q qo x' H1 locs1 → W p l e room_1 s mid #[Value.ref b] below meth c H1 locs1 cells slots Q (F0 mid 1601 ls [])) : W p l e room_1 s mid #[Value.ref b] below meth c H locs cells slots Q (F0 mid 1451 ls []) := by
  obtain ⟨hx, hb, hr, hml, hown, hts, -⟩ := id C.1
  have hown : s.vm.findClass RL = some mid.cls := hown
  refine l_a1 C dW_1451 hls ?_
  refine l_arg C (k := 1) dW_1452 dW_1453 dW_1455 dW_1456 dW_1457 (by decide) (by omega) hL hls hst ?_
  refine l_arg C (k := 2) dW_1458 dW_1459 dW_1461 dW_1462 dW_1463 (by decide) (by omega) hL hls hst ?_
  refine l_cp C (a := 0) (idx := 174) (w := 1159) (n := 2) (vs := [.int (xs (i + 1)), .int (xs (i + 2))]) q269 (by decide) dW_1464 dW_1467 (by decide +kernel) rfl (by decide +kernel) (by decide +kernel) (fun z => trivial) ⟨aI_any _, aI_any _, trivial⟩ hv hls hst hcs (fun x1 H1 locs1 hv1 hst1 => ?_)
  refine l_a2 C dW_1468 hls ?_
  refine l_arg C (k := 1) dW_1469 dW_1470 dW_1472 dW_1473 dW_1474 (by decide) (by omega) hL hls hst1 ?_
  refine l_arg C (k := 2) dW_1475 dW_1476 dW_1478 dW_1479 dW_1480 (by decide) (by omega) hL hls hst1 ?_
  refine l_cp C (a := 314) (idx := 177) (w := 1905) (n := 2) (vs := [.int (xs (i + 1)), .int (xs (i + 2))]) r185 (by decide) dW_1481 dW_1484 (by decide +kernel) rfl (by decide +kernel) (by decide +kernel) (fun z => z.2.1) ⟨aI_any _, aI_any _, trivial⟩ hv1 hls hst1 hcs (fun x2 H2 locs2 hv2 hst2 => ?_)
  refine l_go C dW_1485 (by decide) ?_
  exact kk x2 H2 locs2 hv2 hst2
set_option maxHeartbeats 2000000 in
theorem lk_37 (C : lCx p l s mid meth c b L xs dC dI cA q sv qo) (hL : L ≤ 3072) (hi : i + 6 ≤ L) (hls : lv_has ls 7 (lvL b q qo i)) (hst : lSt s dC dI cA q qo x H locs) (hv : Inv x) (hcs : cells ≤ 601024 ∧ slots ≤ 7293033) (kk : ∀ (x' : xM) (H1 : Heap) (locs1 : List Loc), Inv x' → lSt s dC dI cA q qo x' H1 locs1 → W p l e room_1 s mid #[Value.ref b] below meth c H1 locs1 cells slots Q (F0 mid 1601 ls [])) : W p l e room_1 s mid #[Value.ref b] below meth c H locs cells slots Q (F0 mid 1488 ls []) := by
  obtain ⟨hx, hb, hr, hml, hown, hts, -⟩ := id C.1
  have hown : s.vm.findClass RL = some mid.cls := hown
  refine l_a1 C dW_1488 hls ?_
  refine l_arg C (k := 1) dW_1489 dW_1490 dW_1492 dW_1493 dW_1494 (by decide) (by omega) hL hls hst ?_
  refine l_cp C (a := 0) (idx := 178) (w := 1163) (n := 1) (vs := [.int (xs (i + 1))]) q282 (by decide) dW_1495 dW_1498 (by decide +kernel) rfl (by decide +kernel) (by decide +kernel) (fun z => trivial) ⟨aI_any _, trivial⟩ hv hls hst hcs (fun x1 H1 locs1 hv1 hst1 => ?_)
  refine l_a2 C dW_1499 hls ?_
  refine l_arg C (k := 1) dW_1500 dW_1501 dW_1503 dW_1504 dW_1505 (by decide) (by omega) hL hls hst1 ?_
  refine l_cp C (a := 314) (idx := 181) (w := 1909) (n := 1) (vs := [.int (xs (i + 1))]) r220 (by decide) dW_1506 dW_1509 (by decide +kernel) rfl (by decide +kernel) (by decide +kernel) (fun z => z.2.1) ⟨aI_any _, trivial⟩ hv1 hls hst1 hcs (fun x2 H2 locs2 hv2 hst2 => ?_)
  refine l_go C dW_1510 (by decide) ?_
  exact kk x2 H2 locs2 hv2 hst2
set_option maxHeartbeats 2000000 in
theorem lk_38 (C : lCx p l s mid meth c b L xs dC dI cA q sv qo) (hL : L ≤ 3072) (hi : i + 6 ≤ L) (hls : lv_has ls 7 (lvL b q qo i)) (hst : lSt s dC dI cA q qo x H locs) (hv : Inv x) (hcs : cells ≤ 601024 ∧ slots ≤ 7293033) (kk : ∀ (x' : xM) (H1 : Heap) (locs1 : List Loc), Inv x' → lSt s dC dI cA q qo x' H1 locs1 → W p l e room_1 s mid #[Value.ref b] below meth c H1 locs1 cells slots Q (F0 mid 1601 ls [])) : W p l e room_1 s mid #[Value.ref b] below meth c H locs cells slots Q (F0 mid 1513 ls []) := by
  obtain ⟨hx, hb, hr, hml, hown, hts, -⟩ := id C.1
  have hown : s.vm.findClass RL = some mid.cls := hown
  refine l_a1 C dW_1513 hls ?_
  refine l_arg C (k := 1) dW_1514 dW_1515 dW_1517 dW_1518 dW_1519 (by decide) (by omega) hL hls hst ?_
  refine l_arg C (k := 2) dW_1520 dW_1521 dW_1523 dW_1524 dW_1525 (by decide) (by omega) hL hls hst ?_
  refine l_cp C (a := 0) (idx := 182) (w := 1063) (n := 2) (vs := [.int (xs (i + 1)), .int (xs (i + 2))]) q241 (by decide) dW_1526 dW_1529 (by decide +kernel) rfl (by decide +kernel) (by decide +kernel) (fun z => trivial) ⟨aI_any _, aI_any _, trivial⟩ hv hls hst hcs (fun x1 H1 locs1 hv1 hst1 => ?_)
  refine l_a2 C dW_1530 hls ?_
  refine l_arg C (k := 1) dW_1531 dW_1532 dW_1534 dW_1535 dW_1536 (by decide) (by omega) hL hls hst1 ?_
  refine l_arg C (k := 2) dW_1537 dW_1538 dW_1540 dW_1541 dW_1542 (by decide) (by omega) hL hls hst1 ?_
  refine l_cp C (a := 314) (idx := 185) (w := 1945) (n := 2) (vs := [.int (xs (i + 1)), .int (xs (i + 2))]) r222 (by decide) dW_1543 dW_1546 (by decide +kernel) rfl (by decide +kernel) (by decide +kernel) (fun z => z.2.1) ⟨aI_any _, aI_any _, trivial⟩ hv1 hls hst1 hcs (fun x2 H2 locs2 hv2 hst2 => ?_)
  refine l_go C dW_1547 (by decide) ?_
  exact kk x2 H2 locs2 hv2 hst2
set_option maxHeartbeats 2000000 in
theorem lk_39 (C : lCx p l s mid meth c b L xs dC dI cA q sv qo) (hL : L ≤ 3072) (hi : i + 6 ≤ L) (hls : lv_has ls 7 (lvL b q qo i)) (hst : lSt s dC dI cA q qo x H locs) (hv : Inv x) (hcs : cells ≤ 601024 ∧ slots ≤ 7293033) (kk : ∀ (x' : xM) (H1 : Heap) (locs1 : List Loc), Inv x' → lSt s dC dI cA q qo x' H1 locs1 → W p l e room_1 s mid #[Value.ref b] below meth c H1 locs1 cells slots Q (F0 mid 1601 ls [])) : W p l e room_1 s mid #[Value.ref b] below meth c H locs cells slots Q (F0 mid 1550 ls []) := by
  obtain ⟨hx, hb, hr, hml, hown, hts, -⟩ := id C.1
  have hown : s.vm.findClass RL = some mid.cls := hown
  refine l_a1 C dW_1550 hls ?_
  obtain ⟨XF, hx1, hm1⟩ := p_image  x hv
  refine l_call1 C (a := 0) (j := 126) (w := 982) (n := 0) (as := []) (rest := []) (d := 1200) dW_1551 (by decide +kernel) rfl (by decide) (Nat.le_refl _) hx1 hls hst hcs (fun rv x1 H1 locs1 hp1 hst1 => ?_)
  obtain ⟨⟨z, rfl⟩, hp1⟩ := hp1
  refine lv_pop hx hb dW_1554 rfl ?_
  refine l_a2 C dW_1555 hls ?_
  refine l_call1 C (a := 314) (j := 261) (w := 1950) (n := 0) (as := []) (rest := []) (d := 1200) dW_1556 (by decide +kernel) rfl (by decide) (Nat.le_refl _) (hm1 _ _ hp1) hls hst1 hcs (fun rv x2 H2 locs2 hp2 hst2 => ?_)
  obtain ⟨rfl, hv2⟩ := hp2
  refine lv_pop hx hb dW_1559 rfl ?_
  refine l_go C dW_1560 (by decide) ?_
  exact kk x2 H2 locs2 hv2 hst2
set_option maxHeartbeats 2000000 in
theorem lk_40 (C : lCx p l s mid meth c b L xs dC dI cA q sv qo) (hL : L ≤ 3072) (hi : i + 6 ≤ L) (hls : lv_has ls 7 (lvL b q qo i)) (hst : lSt s dC dI cA q qo x H locs) (hv : Inv x) (hcs : cells ≤ 601024 ∧ slots ≤ 7293033) (kk : ∀ (x' : xM) (H1 : Heap) (locs1 : List Loc), Inv x' → lSt s dC dI cA q qo x' H1 locs1 → W p l e room_1 s mid #[Value.ref b] below meth c H1 locs1 cells slots Q (F0 mid 1601 ls [])) : W p l e room_1 s mid #[Value.ref b] below meth c H locs cells slots Q (F0 mid 1563 ls []) := by
  obtain ⟨hx, hb, hr, hml, hown, hts, -⟩ := id C.1
  have hown : s.vm.findClass RL = some mid.cls := hown
  refine l_a1 C dW_1563 hls ?_
  obtain ⟨XF, hx1, hm1⟩ := p_back  x hv
  refine l_call1 C (a := 0) (j := 127) (w := 992) (n := 0) (as := []) (rest := []) (d := 1200) dW_1564 (by decide +kernel) rfl (by decide) (Nat.le_refl _) hx1 hls hst hcs (fun rv x1 H1 locs1 hp1 hst1 => ?_)
  obtain ⟨⟨z, rfl⟩, hp1⟩ := hp1
  refine lv_pop hx hb dW_1567 rfl ?_
  refine l_a2 C dW_1568 hls ?_
  refine l_call1 C (a := 314) (j := 262) (w := 1954) (n := 0) (as := []) (rest := []) (d := 1200) dW_1569 (by decide +kernel) rfl (by decide) (Nat.le_refl _) (hm1 _ _ hp1) hls hst1 hcs (fun rv x2 H2 locs2 hp2 hst2 => ?_)
  obtain ⟨rfl, hv2⟩ := hp2
  refine lv_pop hx hb dW_1572 rfl ?_
  refine l_go C dW_1573 (by decide) ?_
  exact kk x2 H2 locs2 hv2 hst2
set_option maxHeartbeats 2000000 in
theorem lk_41 (C : lCx p l s mid meth c b L xs dC dI cA q sv qo) (hL : L ≤ 3072) (hi : i + 6 ≤ L) (hls : lv_has ls 7 (lvL b q qo i)) (hst : lSt s dC dI cA q qo x H locs) (hv : Inv x) (hcs : cells ≤ 601024 ∧ slots ≤ 7293033) (kk : ∀ (x' : xM) (H1 : Heap) (locs1 : List Loc), Inv x' → lSt s dC dI cA q qo x' H1 locs1 → W p l e room_1 s mid #[Value.ref b] below meth c H1 locs1 cells slots Q (F0 mid 1601 ls [])) : W p l e room_1 s mid #[Value.ref b] below meth c H locs cells slots Q (F0 mid 1576 ls []) := by
  obtain ⟨hx, hb, hr, hml, hown, hts, -⟩ := id C.1
  have hown : s.vm.findClass RL = some mid.cls := hown
  refine l_a1 C dW_1576 hls ?_
  refine l_arg C (k := 1) dW_1577 dW_1578 dW_1580 dW_1581 dW_1582 (by decide) (by omega) hL hls hst ?_
  refine l_cp C (a := 0) (idx := 194) (w := 805) (n := 1) (vs := [.int (xs (i + 1))]) q123 (by decide) dW_1583 dW_1586 (by decide +kernel) rfl (by decide +kernel) (by decide +kernel) (fun z => trivial) ⟨aI_any _, trivial⟩ hv hls hst hcs (fun x1 H1 locs1 hv1 hst1 => ?_)
  refine l_a2 C dW_1587 hls ?_
  refine l_arg C (k := 1) dW_1588 dW_1589 dW_1591 dW_1592 dW_1593 (by decide) (by omega) hL hls hst1 ?_
  refine l_cp C (a := 314) (idx := 197) (w := 1958) (n := 1) (vs := [.int (xs (i + 1))]) r225 (by decide) dW_1594 dW_1597 (by decide +kernel) rfl (by decide +kernel) (by decide +kernel) (fun z => z.2.1) ⟨aI_any _, trivial⟩ hv1 hls hst1 hcs (fun x2 H2 locs2 hv2 hst2 => ?_)
  refine l_go C dW_1598 (by decide) ?_
  exact kk x2 H2 locs2 hv2 hst2
end CASES
