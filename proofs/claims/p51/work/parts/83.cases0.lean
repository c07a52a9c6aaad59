-- ===== the law: cases 0 to 7 =====
theorem f333_252 : aF 252 zM333.2.2.2.2.2.2.2 = some (252, (.aload_n 1), 1, 0, 0) := by decide +kernel
theorem f333_253 : aF 253 zM333.2.2.2.2.2.2.2 = some (253, (.aload_n 0), 1, 0, 0) := by decide +kernel
theorem f333_254 : aF 254 zM333.2.2.2.2.2.2.2 = some (254, (.iload_n 3), 1, 0, 0) := by decide +kernel
theorem f333_255 : aF 255 zM333.2.2.2.2.2.2.2 = some (255, (.iconst 1), 1, 0, 0) := by decide +kernel
theorem f333_256 : aF 256 zM333.2.2.2.2.2.2.2 = some (256, .iadd, 1, 0, 0) := by decide +kernel
theorem f333_257 : aF 257 zM333.2.2.2.2.2.2.2 = some (257, .iaload, 1, 0, 0) := by decide +kernel
theorem f333_258 : aF 258 zM333.2.2.2.2.2.2.2 = some (258, (.invokevirtual 13), 3, 144, 0) := by decide +kernel
theorem f333_261 : aF 261 zM333.2.2.2.2.2.2.2 = some (261, .pop, 1, 0, 0) := by decide +kernel
theorem f333_262 : aF 262 zM333.2.2.2.2.2.2.2 = some (262, (.aload_n 2), 1, 0, 0) := by decide +kernel
theorem f333_263 : aF 263 zM333.2.2.2.2.2.2.2 = some (263, (.aload_n 0), 1, 0, 0) := by decide +kernel
theorem f333_264 : aF 264 zM333.2.2.2.2.2.2.2 = some (264, (.iload_n 3), 1, 0, 0) := by decide +kernel
theorem f333_265 : aF 265 zM333.2.2.2.2.2.2.2 = some (265, (.iconst 1), 1, 0, 0) := by decide +kernel
theorem f333_266 : aF 266 zM333.2.2.2.2.2.2.2 = some (266, .iadd, 1, 0, 0) := by decide +kernel
theorem f333_267 : aF 267 zM333.2.2.2.2.2.2.2 = some (267, .iaload, 1, 0, 0) := by decide +kernel
theorem f333_268 : aF 268 zM333.2.2.2.2.2.2.2 = some (268, (.invokevirtual 17), 3, 199, 0) := by decide +kernel
theorem f333_271 : aF 271 zM333.2.2.2.2.2.2.2 = some (271, .pop, 1, 0, 0) := by decide +kernel
theorem f333_272 : aF 272 zM333.2.2.2.2.2.2.2 = some (272, (.goto 1803), 3, 2075, 0) := by decide +kernel
theorem f333_275 : aF 275 zM333.2.2.2.2.2.2.2 = some (275, (.aload_n 1), 1, 0, 0) := by decide +kernel
theorem f333_276 : aF 276 zM333.2.2.2.2.2.2.2 = some (276, (.invokevirtual 18), 3, 145, 0) := by decide +kernel
theorem f333_279 : aF 279 zM333.2.2.2.2.2.2.2 = some (279, .pop, 1, 0, 0) := by decide +kernel
theorem f333_280 : aF 280 zM333.2.2.2.2.2.2.2 = some (280, (.aload_n 2), 1, 0, 0) := by decide +kernel
theorem f333_281 : aF 281 zM333.2.2.2.2.2.2.2 = some (281, (.invokevirtual 22), 3, 205, 0) := by decide +kernel
theorem f333_284 : aF 284 zM333.2.2.2.2.2.2.2 = some (284, .pop, 1, 0, 0) := by decide +kernel
theorem f333_285 : aF 285 zM333.2.2.2.2.2.2.2 = some (285, (.goto 1790), 3, 2075, 0) := by decide +kernel
theorem f333_288 : aF 288 zM333.2.2.2.2.2.2.2 = some (288, (.aload_n 1), 1, 0, 0) := by decide +kernel
theorem f333_289 : aF 289 zM333.2.2.2.2.2.2.2 = some (289, (.aload_n 0), 1, 0, 0) := by decide +kernel
theorem f333_290 : aF 290 zM333.2.2.2.2.2.2.2 = some (290, (.iload_n 3), 1, 0, 0) := by decide +kernel
theorem f333_291 : aF 291 zM333.2.2.2.2.2.2.2 = some (291, (.iconst 1), 1, 0, 0) := by decide +kernel
theorem f333_292 : aF 292 zM333.2.2.2.2.2.2.2 = some (292, .iadd, 1, 0, 0) := by decide +kernel
theorem f333_293 : aF 293 zM333.2.2.2.2.2.2.2 = some (293, .iaload, 1, 0, 0) := by decide +kernel
theorem f333_294 : aF 294 zM333.2.2.2.2.2.2.2 = some (294, (.aload_n 0), 1, 0, 0) := by decide +kernel
theorem f333_295 : aF 295 zM333.2.2.2.2.2.2.2 = some (295, (.iload_n 3), 1, 0, 0) := by decide +kernel
theorem f333_296 : aF 296 zM333.2.2.2.2.2.2.2 = some (296, (.iconst 2), 1, 0, 0) := by decide +kernel
theorem f333_297 : aF 297 zM333.2.2.2.2.2.2.2 = some (297, .iadd, 1, 0, 0) := by decide +kernel
theorem f333_298 : aF 298 zM333.2.2.2.2.2.2.2 = some (298, .iaload, 1, 0, 0) := by decide +kernel
theorem f333_299 : aF 299 zM333.2.2.2.2.2.2.2 = some (299, (.invokevirtual 23), 3, 146, 0) := by decide +kernel
theorem f333_302 : aF 302 zM333.2.2.2.2.2.2.2 = some (302, .pop, 1, 0, 0) := by decide +kernel
theorem f333_303 : aF 303 zM333.2.2.2.2.2.2.2 = some (303, (.aload_n 2), 1, 0, 0) := by decide +kernel
theorem f333_304 : aF 304 zM333.2.2.2.2.2.2.2 = some (304, (.aload_n 0), 1, 0, 0) := by decide +kernel
theorem f333_305 : aF 305 zM333.2.2.2.2.2.2.2 = some (305, (.iload_n 3), 1, 0, 0) := by decide +kernel
theorem f333_306 : aF 306 zM333.2.2.2.2.2.2.2 = some (306, (.iconst 1), 1, 0, 0) := by decide +kernel
theorem f333_307 : aF 307 zM333.2.2.2.2.2.2.2 = some (307, .iadd, 1, 0, 0) := by decide +kernel
theorem f333_308 : aF 308 zM333.2.2.2.2.2.2.2 = some (308, .iaload, 1, 0, 0) := by decide +kernel
theorem f333_309 : aF 309 zM333.2.2.2.2.2.2.2 = some (309, (.aload_n 0), 1, 0, 0) := by decide +kernel
theorem f333_310 : aF 310 zM333.2.2.2.2.2.2.2 = some (310, (.iload_n 3), 1, 0, 0) := by decide +kernel
theorem f333_311 : aF 311 zM333.2.2.2.2.2.2.2 = some (311, (.iconst 2), 1, 0, 0) := by decide +kernel
theorem f333_312 : aF 312 zM333.2.2.2.2.2.2.2 = some (312, .iadd, 1, 0, 0) := by decide +kernel
theorem f333_313 : aF 313 zM333.2.2.2.2.2.2.2 = some (313, .iaload, 1, 0, 0) := by decide +kernel
theorem f333_314 : aF 314 zM333.2.2.2.2.2.2.2 = some (314, (.invokevirtual 27), 3, 207, 0) := by decide +kernel
theorem f333_317 : aF 317 zM333.2.2.2.2.2.2.2 = some (317, .pop, 1, 0, 0) := by decide +kernel
theorem f333_318 : aF 318 zM333.2.2.2.2.2.2.2 = some (318, (.goto 1757), 3, 2075, 0) := by decide +kernel
theorem f333_321 : aF 321 zM333.2.2.2.2.2.2.2 = some (321, (.aload_n 1), 1, 0, 0) := by decide +kernel
theorem f333_322 : aF 322 zM333.2.2.2.2.2.2.2 = some (322, (.aload_n 0), 1, 0, 0) := by decide +kernel
theorem f333_323 : aF 323 zM333.2.2.2.2.2.2.2 = some (323, (.iload_n 3), 1, 0, 0) := by decide +kernel
theorem f333_324 : aF 324 zM333.2.2.2.2.2.2.2 = some (324, (.iconst 1), 1, 0, 0) := by decide +kernel
theorem f333_325 : aF 325 zM333.2.2.2.2.2.2.2 = some (325, .iadd, 1, 0, 0) := by decide +kernel
theorem f333_326 : aF 326 zM333.2.2.2.2.2.2.2 = some (326, .iaload, 1, 0, 0) := by decide +kernel
theorem f333_327 : aF 327 zM333.2.2.2.2.2.2.2 = some (327, (.aload_n 0), 1, 0, 0) := by decide +kernel
theorem f333_328 : aF 328 zM333.2.2.2.2.2.2.2 = some (328, (.iload_n 3), 1, 0, 0) := by decide +kernel
theorem f333_329 : aF 329 zM333.2.2.2.2.2.2.2 = some (329, (.iconst 2), 1, 0, 0) := by decide +kernel
theorem f333_330 : aF 330 zM333.2.2.2.2.2.2.2 = some (330, .iadd, 1, 0, 0) := by decide +kernel
theorem f333_331 : aF 331 zM333.2.2.2.2.2.2.2 = some (331, .iaload, 1, 0, 0) := by decide +kernel
theorem f333_332 : aF 332 zM333.2.2.2.2.2.2.2 = some (332, (.invokevirtual 28), 3, 147, 0) := by decide +kernel
theorem f333_335 : aF 335 zM333.2.2.2.2.2.2.2 = some (335, .pop, 1, 0, 0) := by decide +kernel
theorem f333_336 : aF 336 zM333.2.2.2.2.2.2.2 = some (336, (.aload_n 2), 1, 0, 0) := by decide +kernel
theorem f333_337 : aF 337 zM333.2.2.2.2.2.2.2 = some (337, (.aload_n 0), 1, 0, 0) := by decide +kernel
theorem f333_338 : aF 338 zM333.2.2.2.2.2.2.2 = some (338, (.iload_n 3), 1, 0, 0) := by decide +kernel
theorem f333_339 : aF 339 zM333.2.2.2.2.2.2.2 = some (339, (.iconst 1), 1, 0, 0) := by decide +kernel
theorem f333_340 : aF 340 zM333.2.2.2.2.2.2.2 = some (340, .iadd, 1, 0, 0) := by decide +kernel
theorem f333_341 : aF 341 zM333.2.2.2.2.2.2.2 = some (341, .iaload, 1, 0, 0) := by decide +kernel
theorem f333_342 : aF 342 zM333.2.2.2.2.2.2.2 = some (342, (.aload_n 0), 1, 0, 0) := by decide +kernel
theorem f333_343 : aF 343 zM333.2.2.2.2.2.2.2 = some (343, (.iload_n 3), 1, 0, 0) := by decide +kernel
theorem f333_344 : aF 344 zM333.2.2.2.2.2.2.2 = some (344, (.iconst 2), 1, 0, 0) := by decide +kernel
theorem f333_345 : aF 345 zM333.2.2.2.2.2.2.2 = some (345, .iadd, 1, 0, 0) := by decide +kernel
theorem f333_346 : aF 346 zM333.2.2.2.2.2.2.2 = some (346, .iaload, 1, 0, 0) := by decide +kernel
theorem f333_347 : aF 347 zM333.2.2.2.2.2.2.2 = some (347, (.invokevirtual 31), 3, 209, 0) := by decide +kernel
theorem f333_350 : aF 350 zM333.2.2.2.2.2.2.2 = some (350, .pop, 1, 0, 0) := by decide +kernel
theorem f333_351 : aF 351 zM333.2.2.2.2.2.2.2 = some (351, (.goto 1724), 3, 2075, 0) := by decide +kernel
theorem f333_354 : aF 354 zM333.2.2.2.2.2.2.2 = some (354, (.aload_n 1), 1, 0, 0) := by decide +kernel
theorem f333_355 : aF 355 zM333.2.2.2.2.2.2.2 = some (355, (.invokevirtual 32), 3, 148, 0) := by decide +kernel
theorem f333_358 : aF 358 zM333.2.2.2.2.2.2.2 = some (358, .pop, 1, 0, 0) := by decide +kernel
theorem f333_359 : aF 359 zM333.2.2.2.2.2.2.2 = some (359, (.aload_n 2), 1, 0, 0) := by decide +kernel
theorem f333_360 : aF 360 zM333.2.2.2.2.2.2.2 = some (360, (.invokevirtual 35), 3, 210, 0) := by decide +kernel
theorem f333_363 : aF 363 zM333.2.2.2.2.2.2.2 = some (363, .pop, 1, 0, 0) := by decide +kernel
theorem f333_364 : aF 364 zM333.2.2.2.2.2.2.2 = some (364, (.goto 1711), 3, 2075, 0) := by decide +kernel
theorem f333_367 : aF 367 zM333.2.2.2.2.2.2.2 = some (367, (.aload_n 1), 1, 0, 0) := by decide +kernel
theorem f333_368 : aF 368 zM333.2.2.2.2.2.2.2 = some (368, (.invokevirtual 36), 3, 149, 0) := by decide +kernel
theorem f333_371 : aF 371 zM333.2.2.2.2.2.2.2 = some (371, .pop, 1, 0, 0) := by decide +kernel
theorem f333_372 : aF 372 zM333.2.2.2.2.2.2.2 = some (372, (.aload_n 2), 1, 0, 0) := by decide +kernel
theorem f333_373 : aF 373 zM333.2.2.2.2.2.2.2 = some (373, (.invokevirtual 39), 3, 220, 0) := by decide +kernel
theorem f333_376 : aF 376 zM333.2.2.2.2.2.2.2 = some (376, .pop, 1, 0, 0) := by decide +kernel
theorem f333_377 : aF 377 zM333.2.2.2.2.2.2.2 = some (377, (.goto 1698), 3, 2075, 0) := by decide +kernel
theorem f333_380 : aF 380 zM333.2.2.2.2.2.2.2 = some (380, (.aload_n 1), 1, 0, 0) := by decide +kernel
theorem f333_381 : aF 381 zM333.2.2.2.2.2.2.2 = some (381, (.aload_n 0), 1, 0, 0) := by decide +kernel
theorem f333_382 : aF 382 zM333.2.2.2.2.2.2.2 = some (382, (.iload_n 3), 1, 0, 0) := by decide +kernel
theorem f333_383 : aF 383 zM333.2.2.2.2.2.2.2 = some (383, (.iconst 1), 1, 0, 0) := by decide +kernel
theorem f333_384 : aF 384 zM333.2.2.2.2.2.2.2 = some (384, .iadd, 1, 0, 0) := by decide +kernel
theorem f333_385 : aF 385 zM333.2.2.2.2.2.2.2 = some (385, .iaload, 1, 0, 0) := by decide +kernel
theorem f333_386 : aF 386 zM333.2.2.2.2.2.2.2 = some (386, (.aload_n 0), 1, 0, 0) := by decide +kernel
theorem f333_387 : aF 387 zM333.2.2.2.2.2.2.2 = some (387, (.iload_n 3), 1, 0, 0) := by decide +kernel
theorem f333_388 : aF 388 zM333.2.2.2.2.2.2.2 = some (388, (.iconst 2), 1, 0, 0) := by decide +kernel
theorem f333_389 : aF 389 zM333.2.2.2.2.2.2.2 = some (389, .iadd, 1, 0, 0) := by decide +kernel
theorem f333_390 : aF 390 zM333.2.2.2.2.2.2.2 = some (390, .iaload, 1, 0, 0) := by decide +kernel
theorem f333_391 : aF 391 zM333.2.2.2.2.2.2.2 = some (391, (.invokevirtual 40), 3, 150, 0) := by decide +kernel
theorem f333_394 : aF 394 zM333.2.2.2.2.2.2.2 = some (394, .pop, 1, 0, 0) := by decide +kernel
theorem f333_395 : aF 395 zM333.2.2.2.2.2.2.2 = some (395, (.aload_n 2), 1, 0, 0) := by decide +kernel
theorem f333_396 : aF 396 zM333.2.2.2.2.2.2.2 = some (396, (.aload_n 0), 1, 0, 0) := by decide +kernel
theorem f333_397 : aF 397 zM333.2.2.2.2.2.2.2 = some (397, (.iload_n 3), 1, 0, 0) := by decide +kernel
theorem f333_398 : aF 398 zM333.2.2.2.2.2.2.2 = some (398, (.iconst 1), 1, 0, 0) := by decide +kernel
theorem f333_399 : aF 399 zM333.2.2.2.2.2.2.2 = some (399, .iadd, 1, 0, 0) := by decide +kernel
theorem f333_400 : aF 400 zM333.2.2.2.2.2.2.2 = some (400, .iaload, 1, 0, 0) := by decide +kernel
theorem f333_401 : aF 401 zM333.2.2.2.2.2.2.2 = some (401, (.aload_n 0), 1, 0, 0) := by decide +kernel
theorem f333_402 : aF 402 zM333.2.2.2.2.2.2.2 = some (402, (.iload_n 3), 1, 0, 0) := by decide +kernel
theorem f333_403 : aF 403 zM333.2.2.2.2.2.2.2 = some (403, (.iconst 2), 1, 0, 0) := by decide +kernel
theorem f333_404 : aF 404 zM333.2.2.2.2.2.2.2 = some (404, .iadd, 1, 0, 0) := by decide +kernel
theorem f333_405 : aF 405 zM333.2.2.2.2.2.2.2 = some (405, .iaload, 1, 0, 0) := by decide +kernel
theorem f333_406 : aF 406 zM333.2.2.2.2.2.2.2 = some (406, (.invokevirtual 43), 3, 222, 0) := by decide +kernel
theorem f333_409 : aF 409 zM333.2.2.2.2.2.2.2 = some (409, .pop, 1, 0, 0) := by decide +kernel
theorem f333_410 : aF 410 zM333.2.2.2.2.2.2.2 = some (410, (.goto 1665), 3, 2075, 0) := by decide +kernel
theorem f333_413 : aF 413 zM333.2.2.2.2.2.2.2 = some (413, (.aload_n 1), 1, 0, 0) := by decide +kernel
theorem f333_414 : aF 414 zM333.2.2.2.2.2.2.2 = some (414, (.aload_n 0), 1, 0, 0) := by decide +kernel
theorem f333_415 : aF 415 zM333.2.2.2.2.2.2.2 = some (415, (.iload_n 3), 1, 0, 0) := by decide +kernel
theorem f333_416 : aF 416 zM333.2.2.2.2.2.2.2 = some (416, (.iconst 1), 1, 0, 0) := by decide +kernel
theorem f333_417 : aF 417 zM333.2.2.2.2.2.2.2 = some (417, .iadd, 1, 0, 0) := by decide +kernel
theorem f333_418 : aF 418 zM333.2.2.2.2.2.2.2 = some (418, .iaload, 1, 0, 0) := by decide +kernel
theorem f333_419 : aF 419 zM333.2.2.2.2.2.2.2 = some (419, (.invokevirtual 44), 3, 151, 0) := by decide +kernel
theorem f333_422 : aF 422 zM333.2.2.2.2.2.2.2 = some (422, .pop, 1, 0, 0) := by decide +kernel
theorem f333_423 : aF 423 zM333.2.2.2.2.2.2.2 = some (423, (.aload_n 2), 1, 0, 0) := by decide +kernel
theorem f333_424 : aF 424 zM333.2.2.2.2.2.2.2 = some (424, (.aload_n 0), 1, 0, 0) := by decide +kernel
theorem f333_425 : aF 425 zM333.2.2.2.2.2.2.2 = some (425, (.iload_n 3), 1, 0, 0) := by decide +kernel
theorem f333_426 : aF 426 zM333.2.2.2.2.2.2.2 = some (426, (.iconst 1), 1, 0, 0) := by decide +kernel
theorem f333_427 : aF 427 zM333.2.2.2.2.2.2.2 = some (427, .iadd, 1, 0, 0) := by decide +kernel
theorem f333_428 : aF 428 zM333.2.2.2.2.2.2.2 = some (428, .iaload, 1, 0, 0) := by decide +kernel
theorem f333_429 : aF 429 zM333.2.2.2.2.2.2.2 = some (429, (.invokevirtual 47), 3, 208, 0) := by decide +kernel
theorem f333_432 : aF 432 zM333.2.2.2.2.2.2.2 = some (432, .pop, 1, 0, 0) := by decide +kernel
theorem f333_433 : aF 433 zM333.2.2.2.2.2.2.2 = some (433, (.goto 1642), 3, 2075, 0) := by decide +kernel
theorem lc_0 {X : aX} (G : hG X 302) (hX : X 0 = some (8, zab)) {L : Nat} {xs : Nat → Int32} (hX1 : X 1 = some (L, xs)) (hL : L ≤ 3072) {i : Int32} (i0 : 0 ≤ i.toInt) (i1 : i.toInt + 6 ≤ L) {Q : Option Value → aH → Prop} {σ : List Nat} {h : aH} (I : dI σ h) (J : JX h) (kq : ∀ (σ' : List Nat) (h' : aH), dI σ' h' → JX h' → dPh h' ≤ dPh h → Wp X 64 zM333 Q 2075 [some (.retAddr 1), some (.ref 0), some (.ref 72), some (.int i)] [] h') : Wp X 64 zM333 Q 252 [some (.retAddr 1), some (.ref 0), some (.ref 72), some (.int i)] [] h := by
  obtain ⟨J, K⟩ := J
  obtain ⟨fs, f2, t, n, p, c1, a1, a2, a3, a4, c2, a5⟩ := J.1
  obtain ⟨fs0, c0⟩ := hI_o I (r := 0) (ci := 11) (by decide +kernel)
  refine wp1 (fun n d => r_aloadn f333_252 rfl) ?_
  refine wp1 (fun n d => r_aloadnX f333_253 rfl) ?_
  refine wp1 (fun n d => r_iloadn f333_254 rfl) ?_
  refine w_iconst f333_255 (fun v255 hv255 => ?_)
  refine w_iadd f333_256 (by omega) (by omega) (fun v256 hv256 => ?_)
  refine w_xld f333_257 hX1 (by omega) (by omega) (fun v257 hv257 => ?_)
  refine wp_in (lv := 1) (Y := zM144) (days_144 (x := v257) I c1 a1) (fun n d v h' e => r_virt (as := [.int v257]) (r := []) f333_258 c0 (show zmt[144]? = some zM144 from rfl) rfl rfl rfl rfl rfl rfl e) (by decide) ?_
  rintro v' h1 ⟨I1, G1, r1, t1, fs1, rfl, d1, b1, nf1, ne1, y1⟩
  show Wp _ _ _ _ 261 [some (.retAddr 1), some (.ref 0), some (.ref 72), some (.int i)] [.int r1] _
  have d2 := (ne1 72 (by decide)).trans c2
  refine wp1 (fun nn dd => r_pop f333_261 rfl) ?_
  refine wp1 (fun n d => r_aloadn f333_262 rfl) ?_
  refine wp1 (fun n d => r_aloadnX f333_263 rfl) ?_
  refine wp1 (fun n d => r_iloadn f333_264 rfl) ?_
  refine w_iconst f333_265 (fun v265 hv265 => ?_)
  refine w_iadd f333_266 (by omega) (by omega) (fun v266 hv266 => ?_)
  refine w_xld f333_267 hX1 (by omega) (by omega) (fun v267 hv267 => ?_)
  refine wp_in (lv := 1) (Y := zM199) (days_199 (x := v267) I1 d2 a5) (fun n d v h' e => r_virt (as := [.int v267]) (r := []) f333_268 d2 (show zmt[199]? = some zM199 from rfl) rfl rfl rfl rfl rfl rfl e) (by decide) ?_
  rintro v' h2 ⟨I2, G2, r2, t2, fs2, rfl, e2, b2, nf2, ne2, y2⟩
  show Wp _ _ _ _ 271 [some (.retAddr 1), some (.ref 0), some (.ref 72), some (.int i)] [.int r2] _
  have hv : v257 = v267 := by rw [hv257, hv267]; exact congrArg xs (by omega)
  rw [hv] at y1
  obtain ⟨z1, z2⟩ := dyf_eq y1 y2
  subst z2
  have GG : dG ([(1, 0), (72, 1)] : List (Nat × Nat)) σ h σ h2 := dG_trans (dG_sub (by decide) G1) (dG_sub (by decide) G2)
  refine wp1 (fun nn dd => r_pop f333_271 rfl) ?_
  refine wp1 (fun nn dd => r_goto f333_272) ?_
  exact kq σ h2 I2 ⟨⟨⟨fs1, fs2, t1, n, p, (ne2 1 (by decide)).trans d1, b1, (nf1 1 (by decide)).trans a2, (nf1 4 (by decide)).trans a3, a4, e2, b2⟩, JR_dG J.2 I GG (by decide)⟩, JRing_dG K.1 I GG (by decide), JBody_dG K.2.1 I GG (by decide), JShelf_dG K.2.2 I GG (by decide)⟩ GG.2.2
theorem lc_1 {X : aX} (G : hG X 302) (hX : X 0 = some (8, zab)) {L : Nat} {xs : Nat → Int32} (hX1 : X 1 = some (L, xs)) (hL : L ≤ 3072) {i : Int32} (i0 : 0 ≤ i.toInt) (i1 : i.toInt + 6 ≤ L) {Q : Option Value → aH → Prop} {σ : List Nat} {h : aH} (I : dI σ h) (J : JX h) (kq : ∀ (σ' : List Nat) (h' : aH), dI σ' h' → JX h' → dPh h' ≤ dPh h → Wp X 64 zM333 Q 2075 [some (.retAddr 1), some (.ref 0), some (.ref 72), some (.int i)] [] h') : Wp X 64 zM333 Q 275 [some (.retAddr 1), some (.ref 0), some (.ref 72), some (.int i)] [] h := by
  obtain ⟨J, K⟩ := J
  have J0 := J
  obtain ⟨fs, f2, t, n, p, c1, a1, a2, a3, a4, c2, a5⟩ := J.1
  obtain ⟨fs0, c0⟩ := hI_o I (r := 0) (ci := 11) (by decide +kernel)
  obtain ⟨n', b2, n0, n1⟩ := hI_i I c1 (f := 1) (lo := 0) (hi := 150) (by decide +kernel)
  cases a2.symm.trans b2
  obtain ⟨p', b3, p0, p1⟩ := hI_i I c1 (f := 4) (lo := 0) (hi := 150) (by decide +kernel)
  cases a3.symm.trans b3
  have G1c : dGood X cC2 := G 2 (by decide) _ rfl
  refine wp1 (fun n d => r_aloadn f333_275 rfl) ?_
  refine wp_goodQ G1c (Y := zM145) (show zmt[145]? = some zM145 from rfl) I (ρ := [0, n.toInt, p.toInt]) (dK_np (a := 1) (b := 2) (kV_of rfl ⟨⟨by decide, by decide⟩, ⟨by show (0 : Int) ≤ _; omega, by show _ ≤ (150 : Int); omega⟩, ⟨by show (0 : Int) ≤ _; omega, by show _ ≤ (150 : Int); omega⟩, trivial⟩) c1 a2 a3 rfl rfl a4) (dL_of (l := [some (.ref 0)]) ⟨lw_r (by decide), trivial⟩) (fun n => c_145 (wS_dI I)) (fun n d v h' e => r_virt (as := []) (r := []) f333_276 c0 (show zmt[145]? = some zM145 from rfl) rfl rfl rfl rfl rfl rfl e) (by decide) (fun v h1 σ1 I1 G1 P1 Qq1 => ?_)
  obtain ⟨P, hm, ρ', rh', kP, sP⟩ := P1
  cases List.mem_singleton.mp hm
  have J1 : JQ h1 := ⟨JP_of J0.1 I G1 (by decide) kP (a := 2) (b := 3) (oa := 1) (ob := 0) (c := 1) (by decide) (by decide) (by decide) (by decide), JR_dG J0.2 I G1 (by decide)⟩
  obtain ⟨y, rfl, R1⟩ := Qq1
  show Wp _ _ _ _ 279 [some (.retAddr 1), some (.ref 0), some (.ref 72), some (.int i)] [.int y] _
  refine wp1 (fun nn dd => r_pop f333_279 rfl) ?_
  refine wp1 (fun n d => r_aloadn f333_280 rfl) ?_
  obtain ⟨fs2002, c2002⟩ := hI_o I1 (r := 72) (ci := 12) (by decide +kernel)
  refine wp_goodQ (G 3 (by decide) cC3 rfl) (Y := zM205) (show zmt[205]? = some zM205 from rfl) I1 (ρ := [0]) (dK_v (kV_of rfl ⟨⟨by decide, by decide⟩, trivial⟩)) (dL_of (l := [some (.ref 72)]) ⟨lw_r (by decide), trivial⟩) (fun n => c_205 (wS_dI I1)) (fun n d v h' e => r_virt (as := []) (r := []) f333_281 c2002 (show zmt[205]? = some zM205 from rfl) rfl rfl rfl rfl rfl rfl e) (by first | decide | (show 1 + 1 ≤ _; omega)) (fun v h2001 σ2001 I2001 G2001 P2001 Qq2001 => ?_)
  obtain ⟨v281, rfl, R2001⟩ := Qq2001
  show Wp _ _ _ _ 284 [some (.retAddr 1), some (.ref 0), some (.ref 72), some (.int i)] [.int v281] _
  obtain ⟨fs2003, c2003, df2003⟩ := dG_o I1.1 G2001 c2002 (by decide)
  have Z := jx_1 K.2.1 (JP_day J.1) R1 R2001
  have GG : dG ([(72, 2), (73, 0), (75, 0), (76, 0), (77, 0)] : List (Nat × Nat)) σ1 h1 σ2001 h2001 := (dG_sub (by decide) G2001)
  have GH : dG ([(1, 1), (1, 2), (1, 3), (2, 0), (3, 0), (4, 0), (5, 0), (7, 0), (72, 2), (73, 0), (75, 0), (76, 0), (77, 0)] : List (Nat × Nat)) σ h σ2001 h2001 := dG_trans (dG_sub (by decide) G1) (dG_sub (by decide) GG)
  refine wp1 (fun nn dd => r_pop f333_284 rfl) ?_
  refine wp1 (fun nn dd => r_goto f333_285) ?_
  exact kq _ _ I2001 ⟨JQ_dG J1 I1 GG (by decide), JRing_dG K.1 I GH (by decide), Z.1, JShelf_dG K.2.2 I GH (by decide)⟩ (Nat.le_trans GG.2.2 G1.2.2)
theorem lc_2 {X : aX} (G : hG X 302) (hX : X 0 = some (8, zab)) {L : Nat} {xs : Nat → Int32} (hX1 : X 1 = some (L, xs)) (hL : L ≤ 3072) {i : Int32} (i0 : 0 ≤ i.toInt) (i1 : i.toInt + 6 ≤ L) {Q : Option Value → aH → Prop} {σ : List Nat} {h : aH} (I : dI σ h) (J : JX h) (kq : ∀ (σ' : List Nat) (h' : aH), dI σ' h' → JX h' → dPh h' ≤ dPh h → Wp X 64 zM333 Q 2075 [some (.retAddr 1), some (.ref 0), some (.ref 72), some (.int i)] [] h') : Wp X 64 zM333 Q 288 [some (.retAddr 1), some (.ref 0), some (.ref 72), some (.int i)] [] h := by
  obtain ⟨J, K⟩ := J
  have J0 := J
  obtain ⟨fs, f2, t, n, p, c1, a1, a2, a3, a4, c2, a5⟩ := J.1
  obtain ⟨fs0, c0⟩ := hI_o I (r := 0) (ci := 11) (by decide +kernel)
  obtain ⟨n', b2, n0, n1⟩ := hI_i I c1 (f := 1) (lo := 0) (hi := 150) (by decide +kernel)
  cases a2.symm.trans b2
  obtain ⟨p', b3, p0, p1⟩ := hI_i I c1 (f := 4) (lo := 0) (hi := 150) (by decide +kernel)
  cases a3.symm.trans b3
  have G1c : dGood X cC4 := G 4 (by decide) _ rfl
  refine wp1 (fun n d => r_aloadn f333_288 rfl) ?_
  refine wp1 (fun n d => r_aloadnX f333_289 rfl) ?_
  refine wp1 (fun n d => r_iloadn f333_290 rfl) ?_
  refine w_iconst f333_291 (fun v291 hv291 => ?_)
  refine w_iadd f333_292 (by omega) (by omega) (fun v292 hv292 => ?_)
  refine w_xld f333_293 hX1 (by omega) (by omega) (fun v293 hv293 => ?_)
  refine wp1 (fun n d => r_aloadnX f333_294 rfl) ?_
  refine wp1 (fun n d => r_iloadn f333_295 rfl) ?_
  refine w_iconst f333_296 (fun v296 hv296 => ?_)
  refine w_iadd f333_297 (by omega) (by omega) (fun v297 hv297 => ?_)
  refine w_xld f333_298 hX1 (by omega) (by omega) (fun v298 hv298 => ?_)
  refine wp_goodQ G1c (Y := zM146) (show zmt[146]? = some zM146 from rfl) I (ρ := [0, v293.toInt, v298.toInt, n.toInt, p.toInt]) (dK_np (a := 3) (b := 4) (kV_of rfl ⟨⟨by decide, by decide⟩, iR _, iR _, ⟨by show (0 : Int) ≤ _; omega, by show _ ≤ (150 : Int); omega⟩, ⟨by show (0 : Int) ≤ _; omega, by show _ ≤ (150 : Int); omega⟩, trivial⟩) c1 a2 a3 rfl rfl a4) (dL_of (l := [some (.ref 0), some (.int v293), some (.int v298)]) ⟨lw_r (by decide), lw_i rfl, lw_i rfl, trivial⟩) (fun n => c_146 (wS_dI I) rfl rfl) (fun n d v h' e => r_virt (as := [.int v293, .int v298]) (r := []) f333_299 c0 (show zmt[146]? = some zM146 from rfl) rfl rfl rfl rfl rfl rfl e) (by decide) (fun v h1 σ1 I1 G1 P1 Qq1 => ?_)
  obtain ⟨P, hm, ρ', rh', kP, sP⟩ := P1
  cases List.mem_singleton.mp hm
  have J1 : JQ h1 := ⟨JP_of J0.1 I G1 (by decide) kP (a := 2) (b := 3) (oa := 0) (ob := 0) (c := 0) (by decide) (by decide) (by decide) (by decide), JR_dG J0.2 I G1 (by decide)⟩
  obtain ⟨y, rfl, R1⟩ := Qq1
  show Wp _ _ _ _ 302 [some (.retAddr 1), some (.ref 0), some (.ref 72), some (.int i)] [.int y] _
  refine wp1 (fun nn dd => r_pop f333_302 rfl) ?_
  refine wp1 (fun n d => r_aloadn f333_303 rfl) ?_
  refine wp1 (fun n d => r_aloadnX f333_304 rfl) ?_
  refine wp1 (fun n d => r_iloadn f333_305 rfl) ?_
  refine w_iconst f333_306 (fun v306 hv306 => ?_)
  refine w_iadd f333_307 (by omega) (by omega) (fun v307 hv307 => ?_)
  refine w_xld f333_308 hX1 (by omega) (by omega) (fun v308 hv308 => ?_)
  refine wp1 (fun n d => r_aloadnX f333_309 rfl) ?_
  refine wp1 (fun n d => r_iloadn f333_310 rfl) ?_
  refine w_iconst f333_311 (fun v311 hv311 => ?_)
  refine w_iadd f333_312 (by omega) (by omega) (fun v312 hv312 => ?_)
  refine w_xld f333_313 hX1 (by omega) (by omega) (fun v313 hv313 => ?_)
  obtain ⟨fs2002, c2002⟩ := hI_o I1 (r := 72) (ci := 12) (by decide +kernel)
  refine wp_goodQ (G 5 (by decide) cC5 rfl) (Y := zM207) (show zmt[207]? = some zM207 from rfl) I1 (ρ := [0, v308.toInt, v313.toInt]) (dK_v (kV_of rfl ⟨⟨by decide, by decide⟩, iR v308, iR v313, trivial⟩)) (dL_of (l := [some (.ref 72), some (.int v308), some (.int v313), none]) ⟨lw_r (by decide), lw_i rfl, lw_i rfl, lw_0, trivial⟩) (fun n => c_207 (wS_dI I1) rfl rfl) (fun n d v h' e => r_virt (as := [.int v308, .int v313]) (r := []) f333_314 c2002 (show zmt[207]? = some zM207 from rfl) rfl rfl rfl rfl rfl rfl e) (by first | decide | (show 2 + 1 ≤ _; omega)) (fun v h2001 σ2001 I2001 G2001 P2001 Qq2001 => ?_)
  obtain ⟨v314, rfl, R2001⟩ := Qq2001
  show Wp _ _ _ _ 317 [some (.retAddr 1), some (.ref 0), some (.ref 72), some (.int i)] [.int v314] _
  obtain ⟨fs2003, c2003, df2003⟩ := dG_o I1.1 G2001 c2002 (by decide)
  have ev308 : v308 = v293 := by rw [hv308, hv293]; exact congrArg xs (by omega)
  have ev313 : v313 = v298 := by rw [hv313, hv298]; exact congrArg xs (by omega)
  rw [ev308, ev313] at R2001
  have Z := jx_2 K.2.1 (JP_day J.1) R1 R2001
  have GG : dG ([(72, 2), (73, 0), (74, 0), (75, 0), (76, 0), (77, 0)] : List (Nat × Nat)) σ1 h1 σ2001 h2001 := (dG_sub (by decide) G2001)
  have GH : dG ([(1, 1), (1, 2), (1, 3), (2, 0), (3, 0), (4, 0), (5, 0), (7, 0), (72, 2), (73, 0), (74, 0), (75, 0), (76, 0), (77, 0)] : List (Nat × Nat)) σ h σ2001 h2001 := dG_trans (dG_sub (by decide) G1) (dG_sub (by decide) GG)
  refine wp1 (fun nn dd => r_pop f333_317 rfl) ?_
  refine wp1 (fun nn dd => r_goto f333_318) ?_
  exact kq _ _ I2001 ⟨JQ_dG J1 I1 GG (by decide), JRing_dG K.1 I GH (by decide), Z.1, JShelf_dG K.2.2 I GH (by decide)⟩ (Nat.le_trans GG.2.2 G1.2.2)
theorem lc_3 {X : aX} (G : hG X 302) (hX : X 0 = some (8, zab)) {L : Nat} {xs : Nat → Int32} (hX1 : X 1 = some (L, xs)) (hL : L ≤ 3072) {i : Int32} (i0 : 0 ≤ i.toInt) (i1 : i.toInt + 6 ≤ L) {Q : Option Value → aH → Prop} {σ : List Nat} {h : aH} (I : dI σ h) (J : JX h) (kq : ∀ (σ' : List Nat) (h' : aH), dI σ' h' → JX h' → dPh h' ≤ dPh h → Wp X 64 zM333 Q 2075 [some (.retAddr 1), some (.ref 0), some (.ref 72), some (.int i)] [] h') : Wp X 64 zM333 Q 321 [some (.retAddr 1), some (.ref 0), some (.ref 72), some (.int i)] [] h := by
  obtain ⟨J, K⟩ := J
  refine wp1 (fun n d => r_aloadn f333_321 rfl) ?_
  refine wp1 (fun n d => r_aloadnX f333_322 rfl) ?_
  refine wp1 (fun n d => r_iloadn f333_323 rfl) ?_
  refine w_iconst f333_324 (fun v324 hv324 => ?_)
  refine w_iadd f333_325 (by omega) (by omega) (fun v325 hv325 => ?_)
  refine w_xld f333_326 hX1 (by omega) (by omega) (fun v326 hv326 => ?_)
  refine wp1 (fun n d => r_aloadnX f333_327 rfl) ?_
  refine wp1 (fun n d => r_iloadn f333_328 rfl) ?_
  refine w_iconst f333_329 (fun v329 hv329 => ?_)
  refine w_iadd f333_330 (by omega) (by omega) (fun v330 hv330 => ?_)
  refine w_xld f333_331 hX1 (by omega) (by omega) (fun v331 hv331 => ?_)
  obtain ⟨fs1002, c1002⟩ := hI_o I (r := 0) (ci := 11) (by decide +kernel)
  refine wp_goodQ (G 6 (by decide) cC6 rfl) (Y := zM147) (show zmt[147]? = some zM147 from rfl) I (ρ := [0, v326.toInt, v331.toInt]) (dK_v (kV_of rfl ⟨⟨by decide, by decide⟩, iR v326, iR v331, trivial⟩)) (dL_of (l := [some (.ref 0), some (.int v326), some (.int v331)]) ⟨lw_r (by decide), lw_i rfl, lw_i rfl, trivial⟩) (fun n => c_147 (wS_dI I) rfl rfl) (fun n d v h' e => r_virt (as := [.int v326, .int v331]) (r := []) f333_332 c1002 (show zmt[147]? = some zM147 from rfl) rfl rfl rfl rfl rfl rfl e) (by first | decide | (show 1 + 1 ≤ _; omega)) (fun v h1001 σ1001 I1001 G1001 P1001 Qq1001 => ?_)
  obtain ⟨v332, rfl, R1001⟩ := Qq1001
  show Wp _ _ _ _ 335 [some (.retAddr 1), some (.ref 0), some (.ref 72), some (.int i)] [.int v332] _
  obtain ⟨fs1003, c1003, df1003⟩ := dG_o I.1 G1001 c1002 (by decide)
  refine wp1 (fun nn dd => r_pop f333_335 rfl) ?_
  refine wp1 (fun n d => r_aloadn f333_336 rfl) ?_
  refine wp1 (fun n d => r_aloadnX f333_337 rfl) ?_
  refine wp1 (fun n d => r_iloadn f333_338 rfl) ?_
  refine w_iconst f333_339 (fun v339 hv339 => ?_)
  refine w_iadd f333_340 (by omega) (by omega) (fun v340 hv340 => ?_)
  refine w_xld f333_341 hX1 (by omega) (by omega) (fun v341 hv341 => ?_)
  refine wp1 (fun n d => r_aloadnX f333_342 rfl) ?_
  refine wp1 (fun n d => r_iloadn f333_343 rfl) ?_
  refine w_iconst f333_344 (fun v344 hv344 => ?_)
  refine w_iadd f333_345 (by omega) (by omega) (fun v345 hv345 => ?_)
  refine w_xld f333_346 hX1 (by omega) (by omega) (fun v346 hv346 => ?_)
  obtain ⟨fs1005, c1005⟩ := hI_o I1001 (r := 72) (ci := 12) (by decide +kernel)
  refine wp_goodQ (G 7 (by decide) cC7 rfl) (Y := zM209) (show zmt[209]? = some zM209 from rfl) I1001 (ρ := [0, v341.toInt, v346.toInt]) (dK_v (kV_of rfl ⟨⟨by decide, by decide⟩, iR v341, iR v346, trivial⟩)) (dL_of (l := [some (.ref 72), some (.int v341), some (.int v346)]) ⟨lw_r (by decide), lw_i rfl, lw_i rfl, trivial⟩) (fun n => c_209 (wS_dI I1001) rfl rfl) (fun n d v h' e => r_virt (as := [.int v341, .int v346]) (r := []) f333_347 c1005 (show zmt[209]? = some zM209 from rfl) rfl rfl rfl rfl rfl rfl e) (by first | decide | (show 1 + 1 ≤ _; omega)) (fun v h1004 σ1004 I1004 G1004 P1004 Qq1004 => ?_)
  obtain ⟨v347, rfl, R1004⟩ := Qq1004
  show Wp _ _ _ _ 350 [some (.retAddr 1), some (.ref 0), some (.ref 72), some (.int i)] [.int v347] _
  obtain ⟨fs1006, c1006, df1006⟩ := dG_o I1001.1 G1004 c1003 (by decide)
  obtain ⟨fs1007, c1007, df1007⟩ := dG_o I1001.1 G1004 c1005 (by decide)
  have ev341 : v341 = v326 := by rw [hv341, hv326]; exact congrArg xs (by omega)
  have ev346 : v346 = v331 := by rw [hv346, hv331]; exact congrArg xs (by omega)
  rw [ev341, ev346] at R1004
  have Z := jx_3 K.1 R1001 R1004
  have GG : dG ([(13, 2), (14, 0), (15, 0), (72, 11), (81, 0), (82, 0)] : List (Nat × Nat)) σ h σ1004 h1004 := (dG_trans (dG_sub (by decide) G1001) (dG_sub (by decide) G1004))
  refine wp1 (fun nn dd => r_pop f333_350 rfl) ?_
  refine wp1 (fun nn dd => r_goto f333_351) ?_
  exact kq _ _ I1004 ⟨JQ_dG J I GG (by decide), Z.1, JBody_dG K.2.1 I GG (by decide), JShelf_dG K.2.2 I GG (by decide)⟩ GG.2.2
theorem lc_4 {X : aX} (G : hG X 302) (hX : X 0 = some (8, zab)) {L : Nat} {xs : Nat → Int32} (hX1 : X 1 = some (L, xs)) (hL : L ≤ 3072) {i : Int32} (i0 : 0 ≤ i.toInt) (i1 : i.toInt + 6 ≤ L) {Q : Option Value → aH → Prop} {σ : List Nat} {h : aH} (I : dI σ h) (J : JX h) (kq : ∀ (σ' : List Nat) (h' : aH), dI σ' h' → JX h' → dPh h' ≤ dPh h → Wp X 64 zM333 Q 2075 [some (.retAddr 1), some (.ref 0), some (.ref 72), some (.int i)] [] h') : Wp X 64 zM333 Q 354 [some (.retAddr 1), some (.ref 0), some (.ref 72), some (.int i)] [] h := by
  obtain ⟨J, K⟩ := J
  refine wp1 (fun n d => r_aloadn f333_354 rfl) ?_
  obtain ⟨fs1002, c1002⟩ := hI_o I (r := 0) (ci := 11) (by decide +kernel)
  refine wp_goodQ (G 8 (by decide) cC8 rfl) (Y := zM148) (show zmt[148]? = some zM148 from rfl) I (ρ := [0]) (dK_v (kV_of rfl ⟨⟨by decide, by decide⟩, trivial⟩)) (dL_of (l := [some (.ref 0), none]) ⟨lw_r (by decide), lw_0, trivial⟩) (fun n => c_148 (wS_dI I)) (fun n d v h' e => r_virt (as := []) (r := []) f333_355 c1002 (show zmt[148]? = some zM148 from rfl) rfl rfl rfl rfl rfl rfl e) (by first | decide | (show 0 + 1 ≤ _; omega)) (fun v h1001 σ1001 I1001 G1001 P1001 Qq1001 => ?_)
  obtain ⟨v355, rfl, R1001⟩ := Qq1001
  show Wp _ _ _ _ 358 [some (.retAddr 1), some (.ref 0), some (.ref 72), some (.int i)] [.int v355] _
  obtain ⟨fs1003, c1003, df1003⟩ := dG_o I.1 G1001 c1002 (by decide)
  refine wp1 (fun nn dd => r_pop f333_358 rfl) ?_
  refine wp1 (fun n d => r_aloadn f333_359 rfl) ?_
  obtain ⟨fs1005, c1005⟩ := hI_o I1001 (r := 72) (ci := 12) (by decide +kernel)
  refine wp_goodQ (G 9 (by decide) cC9 rfl) (Y := zM210) (show zmt[210]? = some zM210 from rfl) I1001 (ρ := [0]) (dK_v (kV_of rfl ⟨⟨by decide, by decide⟩, trivial⟩)) (dL_of (l := [some (.ref 72), none]) ⟨lw_r (by decide), lw_0, trivial⟩) (fun n => c_210 (wS_dI I1001)) (fun n d v h' e => r_virt (as := []) (r := []) f333_360 c1005 (show zmt[210]? = some zM210 from rfl) rfl rfl rfl rfl rfl rfl e) (by first | decide | (show 0 + 1 ≤ _; omega)) (fun v h1004 σ1004 I1004 G1004 P1004 Qq1004 => ?_)
  obtain ⟨v360, rfl, R1004⟩ := Qq1004
  show Wp _ _ _ _ 363 [some (.retAddr 1), some (.ref 0), some (.ref 72), some (.int i)] [.int v360] _
  obtain ⟨fs1006, c1006, df1006⟩ := dG_o I1001.1 G1004 c1003 (by decide)
  obtain ⟨fs1007, c1007, df1007⟩ := dG_o I1001.1 G1004 c1005 (by decide)
  have Z := jx_4 K.1 R1001 R1004
  have GG : dG ([(13, 2), (72, 11)] : List (Nat × Nat)) σ h σ1004 h1004 := (dG_trans (dG_sub (by decide) G1001) (dG_sub (by decide) G1004))
  refine wp1 (fun nn dd => r_pop f333_363 rfl) ?_
  refine wp1 (fun nn dd => r_goto f333_364) ?_
  exact kq _ _ I1004 ⟨JQ_dG J I GG (by decide), Z.1, JBody_dG K.2.1 I GG (by decide), JShelf_dG K.2.2 I GG (by decide)⟩ GG.2.2
theorem lc_5 {X : aX} (G : hG X 302) (hX : X 0 = some (8, zab)) {L : Nat} {xs : Nat → Int32} (hX1 : X 1 = some (L, xs)) (hL : L ≤ 3072) {i : Int32} (i0 : 0 ≤ i.toInt) (i1 : i.toInt + 6 ≤ L) {Q : Option Value → aH → Prop} {σ : List Nat} {h : aH} (I : dI σ h) (J : JX h) (kq : ∀ (σ' : List Nat) (h' : aH), dI σ' h' → JX h' → dPh h' ≤ dPh h → Wp X 64 zM333 Q 2075 [some (.retAddr 1), some (.ref 0), some (.ref 72), some (.int i)] [] h') : Wp X 64 zM333 Q 367 [some (.retAddr 1), some (.ref 0), some (.ref 72), some (.int i)] [] h := by
  obtain ⟨J, K⟩ := J
  refine wp1 (fun n d => r_aloadn f333_367 rfl) ?_
  obtain ⟨fs1002, c1002⟩ := hI_o I (r := 0) (ci := 11) (by decide +kernel)
  refine wp_good (G 12 (by decide) cC12 rfl) (Y := zM149) (show zmt[149]? = some zM149 from rfl) I (ρ := [0]) (dK_v (kV_of rfl ⟨⟨by decide, by decide⟩, trivial⟩)) (dL_of (l := [some (.ref 0)]) ⟨lw_r (by decide), trivial⟩) (fun n d v h' e => r_virt (as := []) (r := []) f333_368 c1002 (show zmt[149]? = some zM149 from rfl) rfl rfl rfl rfl rfl rfl e) (by first | decide | (show 4 + 1 ≤ _; omega)) (fun v h1001 σ1001 I1001 G1001 P1001 => ?_)
  obtain ⟨v368, vq368⟩ : ∃ y : Int32, v = some (.int y) := by
    obtain ⟨P, hm, ρ', rh', kP, sP⟩ := P1001
    cases List.mem_singleton.mp hm
    cases v with
    | none => exact sP.elim
    | some v =>
      obtain ⟨⟨x, y, rfl, -, -⟩, -⟩ := sP
      exact ⟨x, rfl⟩
  subst vq368
  show Wp _ _ _ _ 371 [some (.retAddr 1), some (.ref 0), some (.ref 72), some (.int i)] [.int v368] _
  obtain ⟨fs1003, c1003, df1003⟩ := dG_o I.1 G1001 c1002 (by decide)
  refine wp1 (fun nn dd => r_pop f333_371 rfl) ?_
  refine wp1 (fun n d => r_aloadn f333_372 rfl) ?_
  obtain ⟨fs1005, c1005⟩ := hI_o I1001 (r := 72) (ci := 12) (by decide +kernel)
  refine wp_good (G 29 (by decide) cC29 rfl) (Y := zM220) (show zmt[220]? = some zM220 from rfl) I1001 (ρ := [0]) (dK_v (kV_of rfl ⟨⟨by decide, by decide⟩, trivial⟩)) (dL_of (l := [some (.ref 72)]) ⟨lw_r (by decide), trivial⟩) (fun n d v h' e => r_virt (as := []) (r := []) f333_373 c1005 (show zmt[220]? = some zM220 from rfl) rfl rfl rfl rfl rfl rfl e) (by first | decide | (show 3 + 1 ≤ _; omega)) (fun v h1004 σ1004 I1004 G1004 P1004 => ?_)
  obtain ⟨v373, vq373⟩ : ∃ y : Int32, v = some (.int y) := by
    obtain ⟨P, hm, ρ', rh', kP, sP⟩ := P1004
    cases List.mem_singleton.mp hm
    cases v with
    | none => exact sP.elim
    | some v =>
      obtain ⟨⟨x, y, rfl, -, -⟩, -⟩ := sP
      exact ⟨x, rfl⟩
  subst vq373
  show Wp _ _ _ _ 376 [some (.retAddr 1), some (.ref 0), some (.ref 72), some (.int i)] [.int v373] _
  obtain ⟨fs1006, c1006, df1006⟩ := dG_o I1001.1 G1004 c1003 (by decide)
  obtain ⟨fs1007, c1007, df1007⟩ := dG_o I1001.1 G1004 c1005 (by decide)
  have GG : dG ([] : List (Nat × Nat)) σ h σ1004 h1004 := (dG_trans (dG_sub (by decide) G1001) (dG_sub (by decide) G1004))
  refine wp1 (fun nn dd => r_pop f333_376 rfl) ?_
  refine wp1 (fun nn dd => r_goto f333_377) ?_
  exact kq _ _ I1004 ⟨JQ_dG J I GG (by decide), JRing_dG K.1 I GG (by decide), JBody_dG K.2.1 I GG (by decide), JShelf_dG K.2.2 I GG (by decide)⟩ GG.2.2
theorem lc_6 {X : aX} (G : hG X 302) (hX : X 0 = some (8, zab)) {L : Nat} {xs : Nat → Int32} (hX1 : X 1 = some (L, xs)) (hL : L ≤ 3072) {i : Int32} (i0 : 0 ≤ i.toInt) (i1 : i.toInt + 6 ≤ L) {Q : Option Value → aH → Prop} {σ : List Nat} {h : aH} (I : dI σ h) (J : JX h) (kq : ∀ (σ' : List Nat) (h' : aH), dI σ' h' → JX h' → dPh h' ≤ dPh h → Wp X 64 zM333 Q 2075 [some (.retAddr 1), some (.ref 0), some (.ref 72), some (.int i)] [] h') : Wp X 64 zM333 Q 380 [some (.retAddr 1), some (.ref 0), some (.ref 72), some (.int i)] [] h := by
  obtain ⟨J, K⟩ := J
  have J0 := J
  obtain ⟨fs, f2, t, n, p, c1, a1, a2, a3, a4, c2, a5⟩ := J.1
  obtain ⟨fs0, c0⟩ := hI_o I (r := 0) (ci := 11) (by decide +kernel)
  obtain ⟨n', b2, n0, n1⟩ := hI_i I c1 (f := 1) (lo := 0) (hi := 150) (by decide +kernel)
  cases a2.symm.trans b2
  obtain ⟨p', b3, p0, p1⟩ := hI_i I c1 (f := 4) (lo := 0) (hi := 150) (by decide +kernel)
  cases a3.symm.trans b3
  have G1c : dGood X cC32 := G 32 (by decide) _ rfl
  refine wp1 (fun n d => r_aloadn f333_380 rfl) ?_
  refine wp1 (fun n d => r_aloadnX f333_381 rfl) ?_
  refine wp1 (fun n d => r_iloadn f333_382 rfl) ?_
  refine w_iconst f333_383 (fun v383 hv383 => ?_)
  refine w_iadd f333_384 (by omega) (by omega) (fun v384 hv384 => ?_)
  refine w_xld f333_385 hX1 (by omega) (by omega) (fun v385 hv385 => ?_)
  refine wp1 (fun n d => r_aloadnX f333_386 rfl) ?_
  refine wp1 (fun n d => r_iloadn f333_387 rfl) ?_
  refine w_iconst f333_388 (fun v388 hv388 => ?_)
  refine w_iadd f333_389 (by omega) (by omega) (fun v389 hv389 => ?_)
  refine w_xld f333_390 hX1 (by omega) (by omega) (fun v390 hv390 => ?_)
  refine wp_goodQ G1c (Y := zM150) (show zmt[150]? = some zM150 from rfl) I (ρ := [0, v385.toInt, v390.toInt, n.toInt, p.toInt]) (dK_np (a := 3) (b := 4) (kV_of rfl ⟨⟨by decide, by decide⟩, iR _, iR _, ⟨by show (0 : Int) ≤ _; omega, by show _ ≤ (150 : Int); omega⟩, ⟨by show (0 : Int) ≤ _; omega, by show _ ≤ (150 : Int); omega⟩, trivial⟩) c1 a2 a3 rfl rfl a4) (dL_of (l := [some (.ref 0), some (.int v385), some (.int v390), none]) ⟨lw_r (by decide), lw_i rfl, lw_i rfl, lw_0, trivial⟩) (fun n => c_150 (wS_dI I) rfl rfl K.1.2.2.2.1 K.1.2.2.2.2) (fun n d v h' e => r_virt (as := [.int v385, .int v390]) (r := []) f333_391 c0 (show zmt[150]? = some zM150 from rfl) rfl rfl rfl rfl rfl rfl e) (by decide) (fun v h1 σ1 I1 G1 P1 Qq1 => ?_)
  obtain ⟨P, hm, ρ', rh', kP, sP⟩ := P1
  cases List.mem_singleton.mp hm
  have J1 : JQ h1 := ⟨JP_of J0.1 I G1 (by decide) kP (a := 2) (b := 3) (oa := 0) (ob := 0) (c := 0) (by decide) (by decide) (by decide) (by decide), JR_dG J0.2 I G1 (by decide)⟩
  obtain ⟨y, rfl, R1⟩ := Qq1
  show Wp _ _ _ _ 394 [some (.retAddr 1), some (.ref 0), some (.ref 72), some (.int i)] [.int y] _
  refine wp1 (fun nn dd => r_pop f333_394 rfl) ?_
  have qn : vw h1 72 11 = vw h 72 11 := vw_ff I.1 G1 (c := 72) (i := 11) (by decide)
  have kn := K.1.1
  have k0 := K.1.2.2.2.1
  have k9 := K.1.2.2.2.2
  refine wp1 (fun n d => r_aloadn f333_395 rfl) ?_
  refine wp1 (fun n d => r_aloadnX f333_396 rfl) ?_
  refine wp1 (fun n d => r_iloadn f333_397 rfl) ?_
  refine w_iconst f333_398 (fun v398 hv398 => ?_)
  refine w_iadd f333_399 (by omega) (by omega) (fun v399 hv399 => ?_)
  refine w_xld f333_400 hX1 (by omega) (by omega) (fun v400 hv400 => ?_)
  refine wp1 (fun n d => r_aloadnX f333_401 rfl) ?_
  refine wp1 (fun n d => r_iloadn f333_402 rfl) ?_
  refine w_iconst f333_403 (fun v403 hv403 => ?_)
  refine w_iadd f333_404 (by omega) (by omega) (fun v404 hv404 => ?_)
  refine w_xld f333_405 hX1 (by omega) (by omega) (fun v405 hv405 => ?_)
  obtain ⟨fs2002, c2002⟩ := hI_o I1 (r := 72) (ci := 12) (by decide +kernel)
  refine wp_goodQ (G 36 (by decide) cC36 rfl) (Y := zM222) (show zmt[222]? = some zM222 from rfl) I1 (ρ := [0, v400.toInt, v405.toInt]) (dK_v (kV_of rfl ⟨⟨by decide, by decide⟩, iR v400, iR v405, trivial⟩)) (dL_of (l := [some (.ref 72), some (.int v400), some (.int v405), none, none, none, none]) ⟨lw_r (by decide), lw_i rfl, lw_i rfl, lw_0, lw_0, lw_0, lw_0, trivial⟩) (fun n => c_222 (wS_dI I1) rfl rfl (by omega) (by omega)) (fun n d v h' e => r_virt (as := [.int v400, .int v405]) (r := []) f333_406 c2002 (show zmt[222]? = some zM222 from rfl) rfl rfl rfl rfl rfl rfl e) (by first | decide | (show 3 + 1 ≤ _; omega)) (fun v h2001 σ2001 I2001 G2001 P2001 Qq2001 => ?_)
  obtain ⟨v406, rfl, R2001⟩ := Qq2001
  show Wp _ _ _ _ 409 [some (.retAddr 1), some (.ref 0), some (.ref 72), some (.int i)] [.int v406] _
  obtain ⟨fs2003, c2003, df2003⟩ := dG_o I1.1 G2001 c2002 (by decide)
  have ev400 : v400 = v385 := by rw [hv400, hv385]; exact congrArg xs (by omega)
  have ev405 : v405 = v390 := by rw [hv405, hv390]; exact congrArg xs (by omega)
  rw [ev400, ev405] at R2001
  have Z := jx_6 K.1 K.2.1 (JP_day J.1) R1 R2001
  have GG : dG ([(72, 2), (72, 11), (73, 0), (75, 0), (76, 0), (77, 0), (78, 0), (80, 0)] : List (Nat × Nat)) σ1 h1 σ2001 h2001 := (dG_sub (by decide) G2001)
  have GH : dG ([(1, 1), (1, 2), (1, 3), (2, 0), (3, 0), (4, 0), (5, 0), (7, 0), (8, 0), (13, 2), (72, 2), (72, 11), (73, 0), (75, 0), (76, 0), (77, 0), (78, 0), (80, 0)] : List (Nat × Nat)) σ h σ2001 h2001 := dG_trans (dG_sub (by decide) G1) (dG_sub (by decide) GG)
  refine wp1 (fun nn dd => r_pop f333_409 rfl) ?_
  refine wp1 (fun nn dd => r_goto f333_410) ?_
  exact kq _ _ I2001 ⟨JQ_dG J1 I1 GG (by decide), Z.1.1, Z.1.2, JShelf_dG K.2.2 I GH (by decide)⟩ (Nat.le_trans GG.2.2 G1.2.2)
theorem lc_7 {X : aX} (G : hG X 302) (hX : X 0 = some (8, zab)) {L : Nat} {xs : Nat → Int32} (hX1 : X 1 = some (L, xs)) (hL : L ≤ 3072) {i : Int32} (i0 : 0 ≤ i.toInt) (i1 : i.toInt + 6 ≤ L) {Q : Option Value → aH → Prop} {σ : List Nat} {h : aH} (I : dI σ h) (J : JX h) (kq : ∀ (σ' : List Nat) (h' : aH), dI σ' h' → JX h' → dPh h' ≤ dPh h → Wp X 64 zM333 Q 2075 [some (.retAddr 1), some (.ref 0), some (.ref 72), some (.int i)] [] h') : Wp X 64 zM333 Q 413 [some (.retAddr 1), some (.ref 0), some (.ref 72), some (.int i)] [] h := by
  obtain ⟨J, K⟩ := J
  have J0 := J
  obtain ⟨fs, f2, t, n, p, c1, a1, a2, a3, a4, c2, a5⟩ := J.1
  obtain ⟨fs0, c0⟩ := hI_o I (r := 0) (ci := 11) (by decide +kernel)
  obtain ⟨n', b2, n0, n1⟩ := hI_i I c1 (f := 1) (lo := 0) (hi := 150) (by decide +kernel)
  cases a2.symm.trans b2
  obtain ⟨p', b3, p0, p1⟩ := hI_i I c1 (f := 4) (lo := 0) (hi := 150) (by decide +kernel)
  cases a3.symm.trans b3
  have G1c : dGood X cC351 := hT_q hX 1 (by decide) _ rfl
  refine wp1 (fun n d => r_aloadn f333_413 rfl) ?_
  refine wp1 (fun n d => r_aloadnX f333_414 rfl) ?_
  refine wp1 (fun n d => r_iloadn f333_415 rfl) ?_
  refine w_iconst f333_416 (fun v416 hv416 => ?_)
  refine w_iadd f333_417 (by omega) (by omega) (fun v417 hv417 => ?_)
  refine w_xld f333_418 hX1 (by omega) (by omega) (fun v418 hv418 => ?_)
  refine wp_goodQ G1c (Y := zM151) (show zmt[151]? = some zM151 from rfl) I (ρ := [0, v418.toInt, n.toInt, p.toInt]) (dK_np (a := 2) (b := 3) (kV_of rfl ⟨⟨by decide, by decide⟩, iR _, ⟨by show (0 : Int) ≤ _; omega, by show _ ≤ (150 : Int); omega⟩, ⟨by show (0 : Int) ≤ _; omega, by show _ ≤ (150 : Int); omega⟩, trivial⟩) c1 a2 a3 rfl rfl a4) (dL_of (l := [some (.ref 0), some (.int v418)]) ⟨lw_r (by decide), lw_i rfl, trivial⟩) (fun n => c_151 (wS_dI I) rfl) (fun n d v h' e => r_virt (as := [.int v418]) (r := []) f333_419 c0 (show zmt[151]? = some zM151 from rfl) rfl rfl rfl rfl rfl rfl e) (by decide) (fun v h1 σ1 I1 G1 P1 Qq1 => ?_)
  obtain ⟨P, hm, ρ', rh', kP, sP⟩ := P1
  cases List.mem_singleton.mp hm
  have J1 : JQ h1 := ⟨JP_of J0.1 I G1 (by decide) kP (a := 2) (b := 3) (oa := 0) (ob := 0) (c := 0) (by decide) (by decide) (by decide) (by decide), JR_dG J0.2 I G1 (by decide)⟩
  obtain ⟨y, rfl, R1⟩ := Qq1
  show Wp _ _ _ _ 422 [some (.retAddr 1), some (.ref 0), some (.ref 72), some (.int i)] [.int y] _
  refine wp1 (fun nn dd => r_pop f333_422 rfl) ?_
  refine wp1 (fun n d => r_aloadn f333_423 rfl) ?_
  refine wp1 (fun n d => r_aloadnX f333_424 rfl) ?_
  refine wp1 (fun n d => r_iloadn f333_425 rfl) ?_
  refine w_iconst f333_426 (fun v426 hv426 => ?_)
  refine w_iadd f333_427 (by omega) (by omega) (fun v427 hv427 => ?_)
  refine w_xld f333_428 hX1 (by omega) (by omega) (fun v428 hv428 => ?_)
  obtain ⟨fs2002, c2002⟩ := hI_o I1 (r := 72) (ci := 12) (by decide +kernel)
  refine wp_goodQ (G 39 (by decide) cC39 rfl) (Y := zM208) (show zmt[208]? = some zM208 from rfl) I1 (ρ := [0, v428.toInt]) (dK_v (kV_of rfl ⟨⟨by decide, by decide⟩, iR v428, trivial⟩)) (dL_of (l := [some (.ref 72), some (.int v428), none]) ⟨lw_r (by decide), lw_i rfl, lw_0, trivial⟩) (fun n => c_208 (wS_dI I1) rfl) (fun n d v h' e => r_virt (as := [.int v428]) (r := []) f333_429 c2002 (show zmt[208]? = some zM208 from rfl) rfl rfl rfl rfl rfl rfl e) (by first | decide | (show 1 + 1 ≤ _; omega)) (fun v h2001 σ2001 I2001 G2001 P2001 Qq2001 => ?_)
  obtain ⟨v429, rfl, R2001⟩ := Qq2001
  show Wp _ _ _ _ 432 [some (.retAddr 1), some (.ref 0), some (.ref 72), some (.int i)] [.int v429] _
  obtain ⟨fs2003, c2003, df2003⟩ := dG_o I1.1 G2001 c2002 (by decide)
  have ev428 : v428 = v418 := by rw [hv428, hv418]; exact congrArg xs (by omega)
  rw [ev428] at R2001
  have Z := jx_7 K.2.1 (JP_day J.1) R1 R2001
  have GG : dG ([(72, 2), (73, 0), (75, 0), (76, 0), (77, 0), (79, 0)] : List (Nat × Nat)) σ1 h1 σ2001 h2001 := (dG_sub (by decide) G2001)
  have GH : dG ([(1, 1), (1, 2), (1, 3), (1, 4), (2, 0), (3, 0), (4, 0), (5, 0), (6, 0), (7, 0), (72, 2), (73, 0), (75, 0), (76, 0), (77, 0), (79, 0)] : List (Nat × Nat)) σ h σ2001 h2001 := dG_trans (dG_sub (by decide) G1) (dG_sub (by decide) GG)
  refine wp1 (fun nn dd => r_pop f333_432 rfl) ?_
  refine wp1 (fun nn dd => r_goto f333_433) ?_
  exact kq _ _ I2001 ⟨JQ_dG J1 I1 GG (by decide), JRing_dG K.1 I GH (by decide), Z.1, JShelf_dG K.2.2 I GH (by decide)⟩ (Nat.le_trans GG.2.2 G1.2.2)
