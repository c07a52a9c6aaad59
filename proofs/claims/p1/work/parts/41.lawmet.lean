-- ===== the law's instructions (by program) =====
theorem f333_18 : aF 18 zM333.2.2.2.2.2.2.2 = some (18, .iload_n 3, 1, 0, 0) := by decide +kernel
theorem f333_19 : aF 19 zM333.2.2.2.2.2.2.2 = some (19, .aload_n 0, 1, 0, 0) := by decide +kernel
theorem f333_20 : aF 20 zM333.2.2.2.2.2.2.2 = some (20, .arraylength, 1, 0, 0) := by decide +kernel
theorem f333_21 : aF 21 zM333.2.2.2.2.2.2.2 = some (21, .bipush 6, 2, 0, 0) := by decide +kernel
theorem f333_23 : aF 23 zM333.2.2.2.2.2.2.2 = some (23, .isub, 1, 0, 0) := by decide +kernel
theorem f333_24 : aF 24 zM333.2.2.2.2.2.2.2 = some (24, .if_icmp .gt 2058, 3, 2082, 0) := by decide +kernel
theorem f333_27 : aF 27 zM333.2.2.2.2.2.2.2 = some (27, .aload_n 0, 1, 0, 0) := by decide +kernel
theorem f333_28 : aF 28 zM333.2.2.2.2.2.2.2 = some (28, .iload_n 3, 1, 0, 0) := by decide +kernel
theorem f333_29 : aF 29 zM333.2.2.2.2.2.2.2 = some (29, .iaload, 1, 0, 0) := by decide +kernel
theorem f333_30 : aF 30 zM333.2.2.2.2.2.2.2 = some (30, .bipush 63, 2, 0, 0) := by decide +kernel
theorem f333_32 : aF 32 zM333.2.2.2.2.2.2.2 = some (32, .iand, 1, 0, 0) := by decide +kernel
theorem f333_33 : aF 33 zM333.2.2.2.2.2.2.2 = some (33, .tableswitch 2043 0 50 #[219, 242, 255, 288, 321, 334, 347, 380, 403, 436, 479, 502, 545, 588, 631, 664, 707, 770, 823, 856, 899, 952, 975, 1018, 1051, 1084, 1127, 1180, 1233, 1266, 1289, 1332, 1355, 1378, 1401, 1444, 1467, 1510, 1533, 1566, 1599, 1622, 1675, 1718, 1741, 1774, 1817, 1890, 1924, 1987, 2020], 219, 0, 0) := by decide +kernel
theorem f333_252 : aF 252 zM333.2.2.2.2.2.2.2 = some (252, .aload_n 1, 1, 0, 0) := by decide +kernel
theorem f333_253 : aF 253 zM333.2.2.2.2.2.2.2 = some (253, .aload_n 0, 1, 0, 0) := by decide +kernel
theorem f333_254 : aF 254 zM333.2.2.2.2.2.2.2 = some (254, .iload_n 3, 1, 0, 0) := by decide +kernel
theorem f333_255 : aF 255 zM333.2.2.2.2.2.2.2 = some (255, .iconst 1, 1, 0, 0) := by decide +kernel
theorem f333_256 : aF 256 zM333.2.2.2.2.2.2.2 = some (256, .iadd, 1, 0, 0) := by decide +kernel
theorem f333_257 : aF 257 zM333.2.2.2.2.2.2.2 = some (257, .iaload, 1, 0, 0) := by decide +kernel
theorem f333_258 : aF 258 zM333.2.2.2.2.2.2.2 = some (258, .invokevirtual 13, 3, 144, 0) := by decide +kernel
theorem f333_261 : aF 261 zM333.2.2.2.2.2.2.2 = some (261, .aload_n 2, 1, 0, 0) := by decide +kernel
theorem f333_262 : aF 262 zM333.2.2.2.2.2.2.2 = some (262, .aload_n 0, 1, 0, 0) := by decide +kernel
theorem f333_263 : aF 263 zM333.2.2.2.2.2.2.2 = some (263, .iload_n 3, 1, 0, 0) := by decide +kernel
theorem f333_264 : aF 264 zM333.2.2.2.2.2.2.2 = some (264, .iconst 1, 1, 0, 0) := by decide +kernel
theorem f333_265 : aF 265 zM333.2.2.2.2.2.2.2 = some (265, .iadd, 1, 0, 0) := by decide +kernel
theorem f333_266 : aF 266 zM333.2.2.2.2.2.2.2 = some (266, .iaload, 1, 0, 0) := by decide +kernel
theorem f333_267 : aF 267 zM333.2.2.2.2.2.2.2 = some (267, .invokevirtual 17, 3, 199, 0) := by decide +kernel
theorem f333_270 : aF 270 zM333.2.2.2.2.2.2.2 = some (270, .if_icmp .eq 1806, 3, 2076, 0) := by decide +kernel
theorem f333_275 : aF 275 zM333.2.2.2.2.2.2.2 = some (275, .aload_n 1, 1, 0, 0) := by decide +kernel
theorem f333_276 : aF 276 zM333.2.2.2.2.2.2.2 = some (276, .invokevirtual 18, 3, 145, 0) := by decide +kernel
theorem f333_279 : aF 279 zM333.2.2.2.2.2.2.2 = some (279, .aload_n 2, 1, 0, 0) := by decide +kernel
theorem f333_280 : aF 280 zM333.2.2.2.2.2.2.2 = some (280, .invokevirtual 22, 3, 205, 0) := by decide +kernel
theorem f333_283 : aF 283 zM333.2.2.2.2.2.2.2 = some (283, .if_icmp .eq 1793, 3, 2076, 0) := by decide +kernel
theorem f333_288 : aF 288 zM333.2.2.2.2.2.2.2 = some (288, .aload_n 1, 1, 0, 0) := by decide +kernel
theorem f333_289 : aF 289 zM333.2.2.2.2.2.2.2 = some (289, .aload_n 0, 1, 0, 0) := by decide +kernel
theorem f333_290 : aF 290 zM333.2.2.2.2.2.2.2 = some (290, .iload_n 3, 1, 0, 0) := by decide +kernel
theorem f333_291 : aF 291 zM333.2.2.2.2.2.2.2 = some (291, .iconst 1, 1, 0, 0) := by decide +kernel
theorem f333_292 : aF 292 zM333.2.2.2.2.2.2.2 = some (292, .iadd, 1, 0, 0) := by decide +kernel
theorem f333_293 : aF 293 zM333.2.2.2.2.2.2.2 = some (293, .iaload, 1, 0, 0) := by decide +kernel
theorem f333_294 : aF 294 zM333.2.2.2.2.2.2.2 = some (294, .aload_n 0, 1, 0, 0) := by decide +kernel
theorem f333_295 : aF 295 zM333.2.2.2.2.2.2.2 = some (295, .iload_n 3, 1, 0, 0) := by decide +kernel
theorem f333_296 : aF 296 zM333.2.2.2.2.2.2.2 = some (296, .iconst 2, 1, 0, 0) := by decide +kernel
theorem f333_297 : aF 297 zM333.2.2.2.2.2.2.2 = some (297, .iadd, 1, 0, 0) := by decide +kernel
theorem f333_298 : aF 298 zM333.2.2.2.2.2.2.2 = some (298, .iaload, 1, 0, 0) := by decide +kernel
theorem f333_299 : aF 299 zM333.2.2.2.2.2.2.2 = some (299, .invokevirtual 23, 3, 146, 0) := by decide +kernel
theorem f333_302 : aF 302 zM333.2.2.2.2.2.2.2 = some (302, .aload_n 2, 1, 0, 0) := by decide +kernel
theorem f333_303 : aF 303 zM333.2.2.2.2.2.2.2 = some (303, .aload_n 0, 1, 0, 0) := by decide +kernel
theorem f333_304 : aF 304 zM333.2.2.2.2.2.2.2 = some (304, .iload_n 3, 1, 0, 0) := by decide +kernel
theorem f333_305 : aF 305 zM333.2.2.2.2.2.2.2 = some (305, .iconst 1, 1, 0, 0) := by decide +kernel
theorem f333_306 : aF 306 zM333.2.2.2.2.2.2.2 = some (306, .iadd, 1, 0, 0) := by decide +kernel
theorem f333_307 : aF 307 zM333.2.2.2.2.2.2.2 = some (307, .iaload, 1, 0, 0) := by decide +kernel
theorem f333_308 : aF 308 zM333.2.2.2.2.2.2.2 = some (308, .aload_n 0, 1, 0, 0) := by decide +kernel
theorem f333_309 : aF 309 zM333.2.2.2.2.2.2.2 = some (309, .iload_n 3, 1, 0, 0) := by decide +kernel
theorem f333_310 : aF 310 zM333.2.2.2.2.2.2.2 = some (310, .iconst 2, 1, 0, 0) := by decide +kernel
theorem f333_311 : aF 311 zM333.2.2.2.2.2.2.2 = some (311, .iadd, 1, 0, 0) := by decide +kernel
theorem f333_312 : aF 312 zM333.2.2.2.2.2.2.2 = some (312, .iaload, 1, 0, 0) := by decide +kernel
theorem f333_313 : aF 313 zM333.2.2.2.2.2.2.2 = some (313, .invokevirtual 27, 3, 207, 0) := by decide +kernel
theorem f333_316 : aF 316 zM333.2.2.2.2.2.2.2 = some (316, .if_icmp .eq 1760, 3, 2076, 0) := by decide +kernel
theorem f333_321 : aF 321 zM333.2.2.2.2.2.2.2 = some (321, .aload_n 1, 1, 0, 0) := by decide +kernel
theorem f333_322 : aF 322 zM333.2.2.2.2.2.2.2 = some (322, .aload_n 0, 1, 0, 0) := by decide +kernel
theorem f333_323 : aF 323 zM333.2.2.2.2.2.2.2 = some (323, .iload_n 3, 1, 0, 0) := by decide +kernel
theorem f333_324 : aF 324 zM333.2.2.2.2.2.2.2 = some (324, .iconst 1, 1, 0, 0) := by decide +kernel
theorem f333_325 : aF 325 zM333.2.2.2.2.2.2.2 = some (325, .iadd, 1, 0, 0) := by decide +kernel
theorem f333_326 : aF 326 zM333.2.2.2.2.2.2.2 = some (326, .iaload, 1, 0, 0) := by decide +kernel
theorem f333_327 : aF 327 zM333.2.2.2.2.2.2.2 = some (327, .aload_n 0, 1, 0, 0) := by decide +kernel
theorem f333_328 : aF 328 zM333.2.2.2.2.2.2.2 = some (328, .iload_n 3, 1, 0, 0) := by decide +kernel
theorem f333_329 : aF 329 zM333.2.2.2.2.2.2.2 = some (329, .iconst 2, 1, 0, 0) := by decide +kernel
theorem f333_330 : aF 330 zM333.2.2.2.2.2.2.2 = some (330, .iadd, 1, 0, 0) := by decide +kernel
theorem f333_331 : aF 331 zM333.2.2.2.2.2.2.2 = some (331, .iaload, 1, 0, 0) := by decide +kernel
theorem f333_332 : aF 332 zM333.2.2.2.2.2.2.2 = some (332, .invokevirtual 28, 3, 147, 0) := by decide +kernel
theorem f333_335 : aF 335 zM333.2.2.2.2.2.2.2 = some (335, .aload_n 2, 1, 0, 0) := by decide +kernel
theorem f333_336 : aF 336 zM333.2.2.2.2.2.2.2 = some (336, .aload_n 0, 1, 0, 0) := by decide +kernel
theorem f333_337 : aF 337 zM333.2.2.2.2.2.2.2 = some (337, .iload_n 3, 1, 0, 0) := by decide +kernel
theorem f333_338 : aF 338 zM333.2.2.2.2.2.2.2 = some (338, .iconst 1, 1, 0, 0) := by decide +kernel
theorem f333_339 : aF 339 zM333.2.2.2.2.2.2.2 = some (339, .iadd, 1, 0, 0) := by decide +kernel
theorem f333_340 : aF 340 zM333.2.2.2.2.2.2.2 = some (340, .iaload, 1, 0, 0) := by decide +kernel
theorem f333_341 : aF 341 zM333.2.2.2.2.2.2.2 = some (341, .aload_n 0, 1, 0, 0) := by decide +kernel
theorem f333_342 : aF 342 zM333.2.2.2.2.2.2.2 = some (342, .iload_n 3, 1, 0, 0) := by decide +kernel
theorem f333_343 : aF 343 zM333.2.2.2.2.2.2.2 = some (343, .iconst 2, 1, 0, 0) := by decide +kernel
theorem f333_344 : aF 344 zM333.2.2.2.2.2.2.2 = some (344, .iadd, 1, 0, 0) := by decide +kernel
theorem f333_345 : aF 345 zM333.2.2.2.2.2.2.2 = some (345, .iaload, 1, 0, 0) := by decide +kernel
theorem f333_346 : aF 346 zM333.2.2.2.2.2.2.2 = some (346, .invokevirtual 31, 3, 209, 0) := by decide +kernel
theorem f333_349 : aF 349 zM333.2.2.2.2.2.2.2 = some (349, .if_icmp .eq 1727, 3, 2076, 0) := by decide +kernel
theorem f333_354 : aF 354 zM333.2.2.2.2.2.2.2 = some (354, .aload_n 1, 1, 0, 0) := by decide +kernel
theorem f333_355 : aF 355 zM333.2.2.2.2.2.2.2 = some (355, .invokevirtual 32, 3, 148, 0) := by decide +kernel
theorem f333_358 : aF 358 zM333.2.2.2.2.2.2.2 = some (358, .aload_n 2, 1, 0, 0) := by decide +kernel
theorem f333_359 : aF 359 zM333.2.2.2.2.2.2.2 = some (359, .invokevirtual 35, 3, 210, 0) := by decide +kernel
theorem f333_362 : aF 362 zM333.2.2.2.2.2.2.2 = some (362, .if_icmp .eq 1714, 3, 2076, 0) := by decide +kernel
theorem f333_367 : aF 367 zM333.2.2.2.2.2.2.2 = some (367, .aload_n 1, 1, 0, 0) := by decide +kernel
theorem f333_368 : aF 368 zM333.2.2.2.2.2.2.2 = some (368, .invokevirtual 36, 3, 149, 0) := by decide +kernel
theorem f333_371 : aF 371 zM333.2.2.2.2.2.2.2 = some (371, .aload_n 2, 1, 0, 0) := by decide +kernel
theorem f333_372 : aF 372 zM333.2.2.2.2.2.2.2 = some (372, .invokevirtual 39, 3, 220, 0) := by decide +kernel
theorem f333_375 : aF 375 zM333.2.2.2.2.2.2.2 = some (375, .if_icmp .eq 1701, 3, 2076, 0) := by decide +kernel
theorem f333_380 : aF 380 zM333.2.2.2.2.2.2.2 = some (380, .aload_n 1, 1, 0, 0) := by decide +kernel
theorem f333_381 : aF 381 zM333.2.2.2.2.2.2.2 = some (381, .aload_n 0, 1, 0, 0) := by decide +kernel
theorem f333_382 : aF 382 zM333.2.2.2.2.2.2.2 = some (382, .iload_n 3, 1, 0, 0) := by decide +kernel
theorem f333_383 : aF 383 zM333.2.2.2.2.2.2.2 = some (383, .iconst 1, 1, 0, 0) := by decide +kernel
theorem f333_384 : aF 384 zM333.2.2.2.2.2.2.2 = some (384, .iadd, 1, 0, 0) := by decide +kernel
theorem f333_385 : aF 385 zM333.2.2.2.2.2.2.2 = some (385, .iaload, 1, 0, 0) := by decide +kernel
theorem f333_386 : aF 386 zM333.2.2.2.2.2.2.2 = some (386, .aload_n 0, 1, 0, 0) := by decide +kernel
theorem f333_387 : aF 387 zM333.2.2.2.2.2.2.2 = some (387, .iload_n 3, 1, 0, 0) := by decide +kernel
theorem f333_388 : aF 388 zM333.2.2.2.2.2.2.2 = some (388, .iconst 2, 1, 0, 0) := by decide +kernel
theorem f333_389 : aF 389 zM333.2.2.2.2.2.2.2 = some (389, .iadd, 1, 0, 0) := by decide +kernel
theorem f333_390 : aF 390 zM333.2.2.2.2.2.2.2 = some (390, .iaload, 1, 0, 0) := by decide +kernel
theorem f333_391 : aF 391 zM333.2.2.2.2.2.2.2 = some (391, .invokevirtual 40, 3, 150, 0) := by decide +kernel
theorem f333_394 : aF 394 zM333.2.2.2.2.2.2.2 = some (394, .aload_n 2, 1, 0, 0) := by decide +kernel
theorem f333_395 : aF 395 zM333.2.2.2.2.2.2.2 = some (395, .aload_n 0, 1, 0, 0) := by decide +kernel
theorem f333_396 : aF 396 zM333.2.2.2.2.2.2.2 = some (396, .iload_n 3, 1, 0, 0) := by decide +kernel
theorem f333_397 : aF 397 zM333.2.2.2.2.2.2.2 = some (397, .iconst 1, 1, 0, 0) := by decide +kernel
theorem f333_398 : aF 398 zM333.2.2.2.2.2.2.2 = some (398, .iadd, 1, 0, 0) := by decide +kernel
theorem f333_399 : aF 399 zM333.2.2.2.2.2.2.2 = some (399, .iaload, 1, 0, 0) := by decide +kernel
theorem f333_400 : aF 400 zM333.2.2.2.2.2.2.2 = some (400, .aload_n 0, 1, 0, 0) := by decide +kernel
theorem f333_401 : aF 401 zM333.2.2.2.2.2.2.2 = some (401, .iload_n 3, 1, 0, 0) := by decide +kernel
theorem f333_402 : aF 402 zM333.2.2.2.2.2.2.2 = some (402, .iconst 2, 1, 0, 0) := by decide +kernel
theorem f333_403 : aF 403 zM333.2.2.2.2.2.2.2 = some (403, .iadd, 1, 0, 0) := by decide +kernel
theorem f333_404 : aF 404 zM333.2.2.2.2.2.2.2 = some (404, .iaload, 1, 0, 0) := by decide +kernel
theorem f333_405 : aF 405 zM333.2.2.2.2.2.2.2 = some (405, .invokevirtual 43, 3, 222, 0) := by decide +kernel
theorem f333_408 : aF 408 zM333.2.2.2.2.2.2.2 = some (408, .if_icmp .eq 1668, 3, 2076, 0) := by decide +kernel
theorem f333_413 : aF 413 zM333.2.2.2.2.2.2.2 = some (413, .aload_n 1, 1, 0, 0) := by decide +kernel
theorem f333_414 : aF 414 zM333.2.2.2.2.2.2.2 = some (414, .aload_n 0, 1, 0, 0) := by decide +kernel
theorem f333_415 : aF 415 zM333.2.2.2.2.2.2.2 = some (415, .iload_n 3, 1, 0, 0) := by decide +kernel
theorem f333_416 : aF 416 zM333.2.2.2.2.2.2.2 = some (416, .iconst 1, 1, 0, 0) := by decide +kernel
theorem f333_417 : aF 417 zM333.2.2.2.2.2.2.2 = some (417, .iadd, 1, 0, 0) := by decide +kernel
theorem f333_418 : aF 418 zM333.2.2.2.2.2.2.2 = some (418, .iaload, 1, 0, 0) := by decide +kernel
theorem f333_419 : aF 419 zM333.2.2.2.2.2.2.2 = some (419, .invokevirtual 44, 3, 151, 0) := by decide +kernel
theorem f333_422 : aF 422 zM333.2.2.2.2.2.2.2 = some (422, .aload_n 2, 1, 0, 0) := by decide +kernel
theorem f333_423 : aF 423 zM333.2.2.2.2.2.2.2 = some (423, .aload_n 0, 1, 0, 0) := by decide +kernel
theorem f333_424 : aF 424 zM333.2.2.2.2.2.2.2 = some (424, .iload_n 3, 1, 0, 0) := by decide +kernel
theorem f333_425 : aF 425 zM333.2.2.2.2.2.2.2 = some (425, .iconst 1, 1, 0, 0) := by decide +kernel
theorem f333_426 : aF 426 zM333.2.2.2.2.2.2.2 = some (426, .iadd, 1, 0, 0) := by decide +kernel
theorem f333_427 : aF 427 zM333.2.2.2.2.2.2.2 = some (427, .iaload, 1, 0, 0) := by decide +kernel
theorem f333_428 : aF 428 zM333.2.2.2.2.2.2.2 = some (428, .invokevirtual 47, 3, 208, 0) := by decide +kernel
theorem f333_431 : aF 431 zM333.2.2.2.2.2.2.2 = some (431, .if_icmp .eq 1645, 3, 2076, 0) := by decide +kernel
theorem f333_436 : aF 436 zM333.2.2.2.2.2.2.2 = some (436, .aload_n 1, 1, 0, 0) := by decide +kernel
theorem f333_437 : aF 437 zM333.2.2.2.2.2.2.2 = some (437, .aload_n 0, 1, 0, 0) := by decide +kernel
theorem f333_438 : aF 438 zM333.2.2.2.2.2.2.2 = some (438, .iload_n 3, 1, 0, 0) := by decide +kernel
theorem f333_439 : aF 439 zM333.2.2.2.2.2.2.2 = some (439, .iconst 1, 1, 0, 0) := by decide +kernel
theorem f333_440 : aF 440 zM333.2.2.2.2.2.2.2 = some (440, .iadd, 1, 0, 0) := by decide +kernel
theorem f333_441 : aF 441 zM333.2.2.2.2.2.2.2 = some (441, .iaload, 1, 0, 0) := by decide +kernel
theorem f333_442 : aF 442 zM333.2.2.2.2.2.2.2 = some (442, .aload_n 0, 1, 0, 0) := by decide +kernel
theorem f333_443 : aF 443 zM333.2.2.2.2.2.2.2 = some (443, .iload_n 3, 1, 0, 0) := by decide +kernel
theorem f333_444 : aF 444 zM333.2.2.2.2.2.2.2 = some (444, .iconst 2, 1, 0, 0) := by decide +kernel
theorem f333_445 : aF 445 zM333.2.2.2.2.2.2.2 = some (445, .iadd, 1, 0, 0) := by decide +kernel
theorem f333_446 : aF 446 zM333.2.2.2.2.2.2.2 = some (446, .iaload, 1, 0, 0) := by decide +kernel
theorem f333_447 : aF 447 zM333.2.2.2.2.2.2.2 = some (447, .invokevirtual 48, 3, 152, 0) := by decide +kernel
theorem f333_450 : aF 450 zM333.2.2.2.2.2.2.2 = some (450, .aload_n 2, 1, 0, 0) := by decide +kernel
theorem f333_451 : aF 451 zM333.2.2.2.2.2.2.2 = some (451, .aload_n 0, 1, 0, 0) := by decide +kernel
theorem f333_452 : aF 452 zM333.2.2.2.2.2.2.2 = some (452, .iload_n 3, 1, 0, 0) := by decide +kernel
theorem f333_453 : aF 453 zM333.2.2.2.2.2.2.2 = some (453, .iconst 1, 1, 0, 0) := by decide +kernel
theorem f333_454 : aF 454 zM333.2.2.2.2.2.2.2 = some (454, .iadd, 1, 0, 0) := by decide +kernel
theorem f333_455 : aF 455 zM333.2.2.2.2.2.2.2 = some (455, .iaload, 1, 0, 0) := by decide +kernel
theorem f333_456 : aF 456 zM333.2.2.2.2.2.2.2 = some (456, .aload_n 0, 1, 0, 0) := by decide +kernel
theorem f333_457 : aF 457 zM333.2.2.2.2.2.2.2 = some (457, .iload_n 3, 1, 0, 0) := by decide +kernel
theorem f333_458 : aF 458 zM333.2.2.2.2.2.2.2 = some (458, .iconst 2, 1, 0, 0) := by decide +kernel
theorem f333_459 : aF 459 zM333.2.2.2.2.2.2.2 = some (459, .iadd, 1, 0, 0) := by decide +kernel
theorem f333_460 : aF 460 zM333.2.2.2.2.2.2.2 = some (460, .iaload, 1, 0, 0) := by decide +kernel
theorem f333_461 : aF 461 zM333.2.2.2.2.2.2.2 = some (461, .invokevirtual 51, 3, 228, 0) := by decide +kernel
theorem f333_464 : aF 464 zM333.2.2.2.2.2.2.2 = some (464, .if_icmp .eq 1612, 3, 2076, 0) := by decide +kernel
theorem f333_469 : aF 469 zM333.2.2.2.2.2.2.2 = some (469, .aload_n 1, 1, 0, 0) := by decide +kernel
theorem f333_470 : aF 470 zM333.2.2.2.2.2.2.2 = some (470, .aload_n 0, 1, 0, 0) := by decide +kernel
theorem f333_471 : aF 471 zM333.2.2.2.2.2.2.2 = some (471, .iload_n 3, 1, 0, 0) := by decide +kernel
theorem f333_472 : aF 472 zM333.2.2.2.2.2.2.2 = some (472, .iconst 1, 1, 0, 0) := by decide +kernel
theorem f333_473 : aF 473 zM333.2.2.2.2.2.2.2 = some (473, .iadd, 1, 0, 0) := by decide +kernel
theorem f333_474 : aF 474 zM333.2.2.2.2.2.2.2 = some (474, .iaload, 1, 0, 0) := by decide +kernel
theorem f333_475 : aF 475 zM333.2.2.2.2.2.2.2 = some (475, .aload_n 0, 1, 0, 0) := by decide +kernel
theorem f333_476 : aF 476 zM333.2.2.2.2.2.2.2 = some (476, .iload_n 3, 1, 0, 0) := by decide +kernel
theorem f333_477 : aF 477 zM333.2.2.2.2.2.2.2 = some (477, .iconst 2, 1, 0, 0) := by decide +kernel
theorem f333_478 : aF 478 zM333.2.2.2.2.2.2.2 = some (478, .iadd, 1, 0, 0) := by decide +kernel
theorem f333_479 : aF 479 zM333.2.2.2.2.2.2.2 = some (479, .iaload, 1, 0, 0) := by decide +kernel
theorem f333_480 : aF 480 zM333.2.2.2.2.2.2.2 = some (480, .aload_n 0, 1, 0, 0) := by decide +kernel
theorem f333_481 : aF 481 zM333.2.2.2.2.2.2.2 = some (481, .iload_n 3, 1, 0, 0) := by decide +kernel
theorem f333_482 : aF 482 zM333.2.2.2.2.2.2.2 = some (482, .iconst 3, 1, 0, 0) := by decide +kernel
theorem f333_483 : aF 483 zM333.2.2.2.2.2.2.2 = some (483, .iadd, 1, 0, 0) := by decide +kernel
theorem f333_484 : aF 484 zM333.2.2.2.2.2.2.2 = some (484, .iaload, 1, 0, 0) := by decide +kernel
theorem f333_485 : aF 485 zM333.2.2.2.2.2.2.2 = some (485, .invokevirtual 52, 3, 153, 0) := by decide +kernel
theorem f333_488 : aF 488 zM333.2.2.2.2.2.2.2 = some (488, .aload_n 2, 1, 0, 0) := by decide +kernel
theorem f333_489 : aF 489 zM333.2.2.2.2.2.2.2 = some (489, .aload_n 0, 1, 0, 0) := by decide +kernel
theorem f333_490 : aF 490 zM333.2.2.2.2.2.2.2 = some (490, .iload_n 3, 1, 0, 0) := by decide +kernel
theorem f333_491 : aF 491 zM333.2.2.2.2.2.2.2 = some (491, .iconst 1, 1, 0, 0) := by decide +kernel
theorem f333_492 : aF 492 zM333.2.2.2.2.2.2.2 = some (492, .iadd, 1, 0, 0) := by decide +kernel
theorem f333_493 : aF 493 zM333.2.2.2.2.2.2.2 = some (493, .iaload, 1, 0, 0) := by decide +kernel
theorem f333_494 : aF 494 zM333.2.2.2.2.2.2.2 = some (494, .aload_n 0, 1, 0, 0) := by decide +kernel
theorem f333_495 : aF 495 zM333.2.2.2.2.2.2.2 = some (495, .iload_n 3, 1, 0, 0) := by decide +kernel
theorem f333_496 : aF 496 zM333.2.2.2.2.2.2.2 = some (496, .iconst 2, 1, 0, 0) := by decide +kernel
theorem f333_497 : aF 497 zM333.2.2.2.2.2.2.2 = some (497, .iadd, 1, 0, 0) := by decide +kernel
theorem f333_498 : aF 498 zM333.2.2.2.2.2.2.2 = some (498, .iaload, 1, 0, 0) := by decide +kernel
theorem f333_499 : aF 499 zM333.2.2.2.2.2.2.2 = some (499, .aload_n 0, 1, 0, 0) := by decide +kernel
theorem f333_500 : aF 500 zM333.2.2.2.2.2.2.2 = some (500, .iload_n 3, 1, 0, 0) := by decide +kernel
theorem f333_501 : aF 501 zM333.2.2.2.2.2.2.2 = some (501, .iconst 3, 1, 0, 0) := by decide +kernel
theorem f333_502 : aF 502 zM333.2.2.2.2.2.2.2 = some (502, .iadd, 1, 0, 0) := by decide +kernel
theorem f333_503 : aF 503 zM333.2.2.2.2.2.2.2 = some (503, .iaload, 1, 0, 0) := by decide +kernel
theorem f333_504 : aF 504 zM333.2.2.2.2.2.2.2 = some (504, .invokevirtual 56, 3, 223, 0) := by decide +kernel
theorem f333_507 : aF 507 zM333.2.2.2.2.2.2.2 = some (507, .if_icmp .eq 1569, 3, 2076, 0) := by decide +kernel
theorem f333_512 : aF 512 zM333.2.2.2.2.2.2.2 = some (512, .aload_n 1, 1, 0, 0) := by decide +kernel
theorem f333_513 : aF 513 zM333.2.2.2.2.2.2.2 = some (513, .aload_n 0, 1, 0, 0) := by decide +kernel
theorem f333_514 : aF 514 zM333.2.2.2.2.2.2.2 = some (514, .iload_n 3, 1, 0, 0) := by decide +kernel
theorem f333_515 : aF 515 zM333.2.2.2.2.2.2.2 = some (515, .iconst 1, 1, 0, 0) := by decide +kernel
theorem f333_516 : aF 516 zM333.2.2.2.2.2.2.2 = some (516, .iadd, 1, 0, 0) := by decide +kernel
theorem f333_517 : aF 517 zM333.2.2.2.2.2.2.2 = some (517, .iaload, 1, 0, 0) := by decide +kernel
theorem f333_518 : aF 518 zM333.2.2.2.2.2.2.2 = some (518, .invokevirtual 57, 3, 154, 0) := by decide +kernel
theorem f333_521 : aF 521 zM333.2.2.2.2.2.2.2 = some (521, .aload_n 2, 1, 0, 0) := by decide +kernel
theorem f333_522 : aF 522 zM333.2.2.2.2.2.2.2 = some (522, .aload_n 0, 1, 0, 0) := by decide +kernel
theorem f333_523 : aF 523 zM333.2.2.2.2.2.2.2 = some (523, .iload_n 3, 1, 0, 0) := by decide +kernel
theorem f333_524 : aF 524 zM333.2.2.2.2.2.2.2 = some (524, .iconst 1, 1, 0, 0) := by decide +kernel
theorem f333_525 : aF 525 zM333.2.2.2.2.2.2.2 = some (525, .iadd, 1, 0, 0) := by decide +kernel
theorem f333_526 : aF 526 zM333.2.2.2.2.2.2.2 = some (526, .iaload, 1, 0, 0) := by decide +kernel
theorem f333_527 : aF 527 zM333.2.2.2.2.2.2.2 = some (527, .invokevirtual 60, 3, 224, 0) := by decide +kernel
theorem f333_530 : aF 530 zM333.2.2.2.2.2.2.2 = some (530, .if_icmp .eq 1546, 3, 2076, 0) := by decide +kernel
theorem f333_535 : aF 535 zM333.2.2.2.2.2.2.2 = some (535, .aload_n 1, 1, 0, 0) := by decide +kernel
theorem f333_536 : aF 536 zM333.2.2.2.2.2.2.2 = some (536, .aload_n 0, 1, 0, 0) := by decide +kernel
theorem f333_537 : aF 537 zM333.2.2.2.2.2.2.2 = some (537, .iload_n 3, 1, 0, 0) := by decide +kernel
theorem f333_538 : aF 538 zM333.2.2.2.2.2.2.2 = some (538, .iconst 1, 1, 0, 0) := by decide +kernel
theorem f333_539 : aF 539 zM333.2.2.2.2.2.2.2 = some (539, .iadd, 1, 0, 0) := by decide +kernel
theorem f333_540 : aF 540 zM333.2.2.2.2.2.2.2 = some (540, .iaload, 1, 0, 0) := by decide +kernel
theorem f333_541 : aF 541 zM333.2.2.2.2.2.2.2 = some (541, .aload_n 0, 1, 0, 0) := by decide +kernel
theorem f333_542 : aF 542 zM333.2.2.2.2.2.2.2 = some (542, .iload_n 3, 1, 0, 0) := by decide +kernel
theorem f333_543 : aF 543 zM333.2.2.2.2.2.2.2 = some (543, .iconst 2, 1, 0, 0) := by decide +kernel
theorem f333_544 : aF 544 zM333.2.2.2.2.2.2.2 = some (544, .iadd, 1, 0, 0) := by decide +kernel
theorem f333_545 : aF 545 zM333.2.2.2.2.2.2.2 = some (545, .iaload, 1, 0, 0) := by decide +kernel
theorem f333_546 : aF 546 zM333.2.2.2.2.2.2.2 = some (546, .aload_n 0, 1, 0, 0) := by decide +kernel
theorem f333_547 : aF 547 zM333.2.2.2.2.2.2.2 = some (547, .iload_n 3, 1, 0, 0) := by decide +kernel
theorem f333_548 : aF 548 zM333.2.2.2.2.2.2.2 = some (548, .iconst 3, 1, 0, 0) := by decide +kernel
theorem f333_549 : aF 549 zM333.2.2.2.2.2.2.2 = some (549, .iadd, 1, 0, 0) := by decide +kernel
theorem f333_550 : aF 550 zM333.2.2.2.2.2.2.2 = some (550, .iaload, 1, 0, 0) := by decide +kernel
theorem f333_551 : aF 551 zM333.2.2.2.2.2.2.2 = some (551, .invokevirtual 61, 3, 155, 0) := by decide +kernel
theorem f333_554 : aF 554 zM333.2.2.2.2.2.2.2 = some (554, .aload_n 2, 1, 0, 0) := by decide +kernel
theorem f333_555 : aF 555 zM333.2.2.2.2.2.2.2 = some (555, .aload_n 0, 1, 0, 0) := by decide +kernel
theorem f333_556 : aF 556 zM333.2.2.2.2.2.2.2 = some (556, .iload_n 3, 1, 0, 0) := by decide +kernel
theorem f333_557 : aF 557 zM333.2.2.2.2.2.2.2 = some (557, .iconst 1, 1, 0, 0) := by decide +kernel
theorem f333_558 : aF 558 zM333.2.2.2.2.2.2.2 = some (558, .iadd, 1, 0, 0) := by decide +kernel
theorem f333_559 : aF 559 zM333.2.2.2.2.2.2.2 = some (559, .iaload, 1, 0, 0) := by decide +kernel
theorem f333_560 : aF 560 zM333.2.2.2.2.2.2.2 = some (560, .aload_n 0, 1, 0, 0) := by decide +kernel
theorem f333_561 : aF 561 zM333.2.2.2.2.2.2.2 = some (561, .iload_n 3, 1, 0, 0) := by decide +kernel
theorem f333_562 : aF 562 zM333.2.2.2.2.2.2.2 = some (562, .iconst 2, 1, 0, 0) := by decide +kernel
theorem f333_563 : aF 563 zM333.2.2.2.2.2.2.2 = some (563, .iadd, 1, 0, 0) := by decide +kernel
theorem f333_564 : aF 564 zM333.2.2.2.2.2.2.2 = some (564, .iaload, 1, 0, 0) := by decide +kernel
theorem f333_565 : aF 565 zM333.2.2.2.2.2.2.2 = some (565, .aload_n 0, 1, 0, 0) := by decide +kernel
theorem f333_566 : aF 566 zM333.2.2.2.2.2.2.2 = some (566, .iload_n 3, 1, 0, 0) := by decide +kernel
theorem f333_567 : aF 567 zM333.2.2.2.2.2.2.2 = some (567, .iconst 3, 1, 0, 0) := by decide +kernel
theorem f333_568 : aF 568 zM333.2.2.2.2.2.2.2 = some (568, .iadd, 1, 0, 0) := by decide +kernel
theorem f333_569 : aF 569 zM333.2.2.2.2.2.2.2 = some (569, .iaload, 1, 0, 0) := by decide +kernel
theorem f333_570 : aF 570 zM333.2.2.2.2.2.2.2 = some (570, .invokevirtual 64, 3, 225, 0) := by decide +kernel
theorem f333_573 : aF 573 zM333.2.2.2.2.2.2.2 = some (573, .if_icmp .eq 1503, 3, 2076, 0) := by decide +kernel
theorem f333_578 : aF 578 zM333.2.2.2.2.2.2.2 = some (578, .aload_n 1, 1, 0, 0) := by decide +kernel
theorem f333_579 : aF 579 zM333.2.2.2.2.2.2.2 = some (579, .aload_n 0, 1, 0, 0) := by decide +kernel
theorem f333_580 : aF 580 zM333.2.2.2.2.2.2.2 = some (580, .iload_n 3, 1, 0, 0) := by decide +kernel
theorem f333_581 : aF 581 zM333.2.2.2.2.2.2.2 = some (581, .iconst 1, 1, 0, 0) := by decide +kernel
theorem f333_582 : aF 582 zM333.2.2.2.2.2.2.2 = some (582, .iadd, 1, 0, 0) := by decide +kernel
theorem f333_583 : aF 583 zM333.2.2.2.2.2.2.2 = some (583, .iaload, 1, 0, 0) := by decide +kernel
theorem f333_584 : aF 584 zM333.2.2.2.2.2.2.2 = some (584, .aload_n 0, 1, 0, 0) := by decide +kernel
theorem f333_585 : aF 585 zM333.2.2.2.2.2.2.2 = some (585, .iload_n 3, 1, 0, 0) := by decide +kernel
theorem f333_586 : aF 586 zM333.2.2.2.2.2.2.2 = some (586, .iconst 2, 1, 0, 0) := by decide +kernel
theorem f333_587 : aF 587 zM333.2.2.2.2.2.2.2 = some (587, .iadd, 1, 0, 0) := by decide +kernel
theorem f333_588 : aF 588 zM333.2.2.2.2.2.2.2 = some (588, .iaload, 1, 0, 0) := by decide +kernel
theorem f333_589 : aF 589 zM333.2.2.2.2.2.2.2 = some (589, .aload_n 0, 1, 0, 0) := by decide +kernel
theorem f333_590 : aF 590 zM333.2.2.2.2.2.2.2 = some (590, .iload_n 3, 1, 0, 0) := by decide +kernel
theorem f333_591 : aF 591 zM333.2.2.2.2.2.2.2 = some (591, .iconst 3, 1, 0, 0) := by decide +kernel
theorem f333_592 : aF 592 zM333.2.2.2.2.2.2.2 = some (592, .iadd, 1, 0, 0) := by decide +kernel
theorem f333_593 : aF 593 zM333.2.2.2.2.2.2.2 = some (593, .iaload, 1, 0, 0) := by decide +kernel
theorem f333_594 : aF 594 zM333.2.2.2.2.2.2.2 = some (594, .invokevirtual 65, 3, 156, 0) := by decide +kernel
theorem f333_597 : aF 597 zM333.2.2.2.2.2.2.2 = some (597, .aload_n 2, 1, 0, 0) := by decide +kernel
theorem f333_598 : aF 598 zM333.2.2.2.2.2.2.2 = some (598, .aload_n 0, 1, 0, 0) := by decide +kernel
theorem f333_599 : aF 599 zM333.2.2.2.2.2.2.2 = some (599, .iload_n 3, 1, 0, 0) := by decide +kernel
theorem f333_600 : aF 600 zM333.2.2.2.2.2.2.2 = some (600, .iconst 1, 1, 0, 0) := by decide +kernel
theorem f333_601 : aF 601 zM333.2.2.2.2.2.2.2 = some (601, .iadd, 1, 0, 0) := by decide +kernel
theorem f333_602 : aF 602 zM333.2.2.2.2.2.2.2 = some (602, .iaload, 1, 0, 0) := by decide +kernel
theorem f333_603 : aF 603 zM333.2.2.2.2.2.2.2 = some (603, .aload_n 0, 1, 0, 0) := by decide +kernel
theorem f333_604 : aF 604 zM333.2.2.2.2.2.2.2 = some (604, .iload_n 3, 1, 0, 0) := by decide +kernel
theorem f333_605 : aF 605 zM333.2.2.2.2.2.2.2 = some (605, .iconst 2, 1, 0, 0) := by decide +kernel
theorem f333_606 : aF 606 zM333.2.2.2.2.2.2.2 = some (606, .iadd, 1, 0, 0) := by decide +kernel
theorem f333_607 : aF 607 zM333.2.2.2.2.2.2.2 = some (607, .iaload, 1, 0, 0) := by decide +kernel
theorem f333_608 : aF 608 zM333.2.2.2.2.2.2.2 = some (608, .aload_n 0, 1, 0, 0) := by decide +kernel
theorem f333_609 : aF 609 zM333.2.2.2.2.2.2.2 = some (609, .iload_n 3, 1, 0, 0) := by decide +kernel
theorem f333_610 : aF 610 zM333.2.2.2.2.2.2.2 = some (610, .iconst 3, 1, 0, 0) := by decide +kernel
theorem f333_611 : aF 611 zM333.2.2.2.2.2.2.2 = some (611, .iadd, 1, 0, 0) := by decide +kernel
theorem f333_612 : aF 612 zM333.2.2.2.2.2.2.2 = some (612, .iaload, 1, 0, 0) := by decide +kernel
theorem f333_613 : aF 613 zM333.2.2.2.2.2.2.2 = some (613, .invokevirtual 68, 3, 227, 0) := by decide +kernel
theorem f333_616 : aF 616 zM333.2.2.2.2.2.2.2 = some (616, .if_icmp .eq 1460, 3, 2076, 0) := by decide +kernel
theorem f333_621 : aF 621 zM333.2.2.2.2.2.2.2 = some (621, .aload_n 1, 1, 0, 0) := by decide +kernel
theorem f333_622 : aF 622 zM333.2.2.2.2.2.2.2 = some (622, .aload_n 0, 1, 0, 0) := by decide +kernel
theorem f333_623 : aF 623 zM333.2.2.2.2.2.2.2 = some (623, .iload_n 3, 1, 0, 0) := by decide +kernel
theorem f333_624 : aF 624 zM333.2.2.2.2.2.2.2 = some (624, .iconst 1, 1, 0, 0) := by decide +kernel
theorem f333_625 : aF 625 zM333.2.2.2.2.2.2.2 = some (625, .iadd, 1, 0, 0) := by decide +kernel
theorem f333_626 : aF 626 zM333.2.2.2.2.2.2.2 = some (626, .iaload, 1, 0, 0) := by decide +kernel
theorem f333_627 : aF 627 zM333.2.2.2.2.2.2.2 = some (627, .aload_n 0, 1, 0, 0) := by decide +kernel
theorem f333_628 : aF 628 zM333.2.2.2.2.2.2.2 = some (628, .iload_n 3, 1, 0, 0) := by decide +kernel
theorem f333_629 : aF 629 zM333.2.2.2.2.2.2.2 = some (629, .iconst 2, 1, 0, 0) := by decide +kernel
theorem f333_630 : aF 630 zM333.2.2.2.2.2.2.2 = some (630, .iadd, 1, 0, 0) := by decide +kernel
theorem f333_631 : aF 631 zM333.2.2.2.2.2.2.2 = some (631, .iaload, 1, 0, 0) := by decide +kernel
theorem f333_632 : aF 632 zM333.2.2.2.2.2.2.2 = some (632, .aload_n 0, 1, 0, 0) := by decide +kernel
theorem f333_633 : aF 633 zM333.2.2.2.2.2.2.2 = some (633, .iload_n 3, 1, 0, 0) := by decide +kernel
theorem f333_634 : aF 634 zM333.2.2.2.2.2.2.2 = some (634, .iconst 3, 1, 0, 0) := by decide +kernel
theorem f333_635 : aF 635 zM333.2.2.2.2.2.2.2 = some (635, .iadd, 1, 0, 0) := by decide +kernel
theorem f333_636 : aF 636 zM333.2.2.2.2.2.2.2 = some (636, .iaload, 1, 0, 0) := by decide +kernel
theorem f333_637 : aF 637 zM333.2.2.2.2.2.2.2 = some (637, .invokevirtual 69, 3, 157, 0) := by decide +kernel
theorem f333_640 : aF 640 zM333.2.2.2.2.2.2.2 = some (640, .aload_n 2, 1, 0, 0) := by decide +kernel
theorem f333_641 : aF 641 zM333.2.2.2.2.2.2.2 = some (641, .aload_n 0, 1, 0, 0) := by decide +kernel
theorem f333_642 : aF 642 zM333.2.2.2.2.2.2.2 = some (642, .iload_n 3, 1, 0, 0) := by decide +kernel
theorem f333_643 : aF 643 zM333.2.2.2.2.2.2.2 = some (643, .iconst 1, 1, 0, 0) := by decide +kernel
theorem f333_644 : aF 644 zM333.2.2.2.2.2.2.2 = some (644, .iadd, 1, 0, 0) := by decide +kernel
theorem f333_645 : aF 645 zM333.2.2.2.2.2.2.2 = some (645, .iaload, 1, 0, 0) := by decide +kernel
theorem f333_646 : aF 646 zM333.2.2.2.2.2.2.2 = some (646, .aload_n 0, 1, 0, 0) := by decide +kernel
theorem f333_647 : aF 647 zM333.2.2.2.2.2.2.2 = some (647, .iload_n 3, 1, 0, 0) := by decide +kernel
theorem f333_648 : aF 648 zM333.2.2.2.2.2.2.2 = some (648, .iconst 2, 1, 0, 0) := by decide +kernel
theorem f333_649 : aF 649 zM333.2.2.2.2.2.2.2 = some (649, .iadd, 1, 0, 0) := by decide +kernel
theorem f333_650 : aF 650 zM333.2.2.2.2.2.2.2 = some (650, .iaload, 1, 0, 0) := by decide +kernel
theorem f333_651 : aF 651 zM333.2.2.2.2.2.2.2 = some (651, .aload_n 0, 1, 0, 0) := by decide +kernel
theorem f333_652 : aF 652 zM333.2.2.2.2.2.2.2 = some (652, .iload_n 3, 1, 0, 0) := by decide +kernel
theorem f333_653 : aF 653 zM333.2.2.2.2.2.2.2 = some (653, .iconst 3, 1, 0, 0) := by decide +kernel
theorem f333_654 : aF 654 zM333.2.2.2.2.2.2.2 = some (654, .iadd, 1, 0, 0) := by decide +kernel
theorem f333_655 : aF 655 zM333.2.2.2.2.2.2.2 = some (655, .iaload, 1, 0, 0) := by decide +kernel
theorem f333_656 : aF 656 zM333.2.2.2.2.2.2.2 = some (656, .invokevirtual 72, 3, 230, 0) := by decide +kernel
theorem f333_659 : aF 659 zM333.2.2.2.2.2.2.2 = some (659, .if_icmp .eq 1417, 3, 2076, 0) := by decide +kernel
theorem f333_664 : aF 664 zM333.2.2.2.2.2.2.2 = some (664, .aload_n 1, 1, 0, 0) := by decide +kernel
theorem f333_665 : aF 665 zM333.2.2.2.2.2.2.2 = some (665, .aload_n 0, 1, 0, 0) := by decide +kernel
theorem f333_666 : aF 666 zM333.2.2.2.2.2.2.2 = some (666, .iload_n 3, 1, 0, 0) := by decide +kernel
theorem f333_667 : aF 667 zM333.2.2.2.2.2.2.2 = some (667, .iconst 1, 1, 0, 0) := by decide +kernel
theorem f333_668 : aF 668 zM333.2.2.2.2.2.2.2 = some (668, .iadd, 1, 0, 0) := by decide +kernel
theorem f333_669 : aF 669 zM333.2.2.2.2.2.2.2 = some (669, .iaload, 1, 0, 0) := by decide +kernel
theorem f333_670 : aF 670 zM333.2.2.2.2.2.2.2 = some (670, .aload_n 0, 1, 0, 0) := by decide +kernel
theorem f333_671 : aF 671 zM333.2.2.2.2.2.2.2 = some (671, .iload_n 3, 1, 0, 0) := by decide +kernel
theorem f333_672 : aF 672 zM333.2.2.2.2.2.2.2 = some (672, .iconst 2, 1, 0, 0) := by decide +kernel
theorem f333_673 : aF 673 zM333.2.2.2.2.2.2.2 = some (673, .iadd, 1, 0, 0) := by decide +kernel
theorem f333_674 : aF 674 zM333.2.2.2.2.2.2.2 = some (674, .iaload, 1, 0, 0) := by decide +kernel
theorem f333_675 : aF 675 zM333.2.2.2.2.2.2.2 = some (675, .invokevirtual 73, 3, 158, 0) := by decide +kernel
theorem f333_678 : aF 678 zM333.2.2.2.2.2.2.2 = some (678, .aload_n 2, 1, 0, 0) := by decide +kernel
theorem f333_679 : aF 679 zM333.2.2.2.2.2.2.2 = some (679, .aload_n 0, 1, 0, 0) := by decide +kernel
theorem f333_680 : aF 680 zM333.2.2.2.2.2.2.2 = some (680, .iload_n 3, 1, 0, 0) := by decide +kernel
theorem f333_681 : aF 681 zM333.2.2.2.2.2.2.2 = some (681, .iconst 1, 1, 0, 0) := by decide +kernel
theorem f333_682 : aF 682 zM333.2.2.2.2.2.2.2 = some (682, .iadd, 1, 0, 0) := by decide +kernel
theorem f333_683 : aF 683 zM333.2.2.2.2.2.2.2 = some (683, .iaload, 1, 0, 0) := by decide +kernel
theorem f333_684 : aF 684 zM333.2.2.2.2.2.2.2 = some (684, .aload_n 0, 1, 0, 0) := by decide +kernel
theorem f333_685 : aF 685 zM333.2.2.2.2.2.2.2 = some (685, .iload_n 3, 1, 0, 0) := by decide +kernel
theorem f333_686 : aF 686 zM333.2.2.2.2.2.2.2 = some (686, .iconst 2, 1, 0, 0) := by decide +kernel
theorem f333_687 : aF 687 zM333.2.2.2.2.2.2.2 = some (687, .iadd, 1, 0, 0) := by decide +kernel
theorem f333_688 : aF 688 zM333.2.2.2.2.2.2.2 = some (688, .iaload, 1, 0, 0) := by decide +kernel
theorem f333_689 : aF 689 zM333.2.2.2.2.2.2.2 = some (689, .invokevirtual 76, 3, 231, 0) := by decide +kernel
theorem f333_692 : aF 692 zM333.2.2.2.2.2.2.2 = some (692, .if_icmp .eq 1384, 3, 2076, 0) := by decide +kernel
theorem f333_697 : aF 697 zM333.2.2.2.2.2.2.2 = some (697, .aload_n 1, 1, 0, 0) := by decide +kernel
theorem f333_698 : aF 698 zM333.2.2.2.2.2.2.2 = some (698, .aload_n 0, 1, 0, 0) := by decide +kernel
theorem f333_699 : aF 699 zM333.2.2.2.2.2.2.2 = some (699, .iload_n 3, 1, 0, 0) := by decide +kernel
theorem f333_700 : aF 700 zM333.2.2.2.2.2.2.2 = some (700, .iconst 1, 1, 0, 0) := by decide +kernel
theorem f333_701 : aF 701 zM333.2.2.2.2.2.2.2 = some (701, .iadd, 1, 0, 0) := by decide +kernel
theorem f333_702 : aF 702 zM333.2.2.2.2.2.2.2 = some (702, .iaload, 1, 0, 0) := by decide +kernel
theorem f333_703 : aF 703 zM333.2.2.2.2.2.2.2 = some (703, .aload_n 0, 1, 0, 0) := by decide +kernel
theorem f333_704 : aF 704 zM333.2.2.2.2.2.2.2 = some (704, .iload_n 3, 1, 0, 0) := by decide +kernel
theorem f333_705 : aF 705 zM333.2.2.2.2.2.2.2 = some (705, .iconst 2, 1, 0, 0) := by decide +kernel
theorem f333_706 : aF 706 zM333.2.2.2.2.2.2.2 = some (706, .iadd, 1, 0, 0) := by decide +kernel
theorem f333_707 : aF 707 zM333.2.2.2.2.2.2.2 = some (707, .iaload, 1, 0, 0) := by decide +kernel
theorem f333_708 : aF 708 zM333.2.2.2.2.2.2.2 = some (708, .aload_n 0, 1, 0, 0) := by decide +kernel
theorem f333_709 : aF 709 zM333.2.2.2.2.2.2.2 = some (709, .iload_n 3, 1, 0, 0) := by decide +kernel
theorem f333_710 : aF 710 zM333.2.2.2.2.2.2.2 = some (710, .iconst 3, 1, 0, 0) := by decide +kernel
theorem f333_711 : aF 711 zM333.2.2.2.2.2.2.2 = some (711, .iadd, 1, 0, 0) := by decide +kernel
theorem f333_712 : aF 712 zM333.2.2.2.2.2.2.2 = some (712, .iaload, 1, 0, 0) := by decide +kernel
theorem f333_713 : aF 713 zM333.2.2.2.2.2.2.2 = some (713, .invokevirtual 77, 3, 159, 0) := by decide +kernel
theorem f333_716 : aF 716 zM333.2.2.2.2.2.2.2 = some (716, .aload_n 2, 1, 0, 0) := by decide +kernel
theorem f333_717 : aF 717 zM333.2.2.2.2.2.2.2 = some (717, .aload_n 0, 1, 0, 0) := by decide +kernel
theorem f333_718 : aF 718 zM333.2.2.2.2.2.2.2 = some (718, .iload_n 3, 1, 0, 0) := by decide +kernel
theorem f333_719 : aF 719 zM333.2.2.2.2.2.2.2 = some (719, .iconst 1, 1, 0, 0) := by decide +kernel
theorem f333_720 : aF 720 zM333.2.2.2.2.2.2.2 = some (720, .iadd, 1, 0, 0) := by decide +kernel
theorem f333_721 : aF 721 zM333.2.2.2.2.2.2.2 = some (721, .iaload, 1, 0, 0) := by decide +kernel
theorem f333_722 : aF 722 zM333.2.2.2.2.2.2.2 = some (722, .aload_n 0, 1, 0, 0) := by decide +kernel
theorem f333_723 : aF 723 zM333.2.2.2.2.2.2.2 = some (723, .iload_n 3, 1, 0, 0) := by decide +kernel
theorem f333_724 : aF 724 zM333.2.2.2.2.2.2.2 = some (724, .iconst 2, 1, 0, 0) := by decide +kernel
theorem f333_725 : aF 725 zM333.2.2.2.2.2.2.2 = some (725, .iadd, 1, 0, 0) := by decide +kernel
theorem f333_726 : aF 726 zM333.2.2.2.2.2.2.2 = some (726, .iaload, 1, 0, 0) := by decide +kernel
theorem f333_727 : aF 727 zM333.2.2.2.2.2.2.2 = some (727, .aload_n 0, 1, 0, 0) := by decide +kernel
theorem f333_728 : aF 728 zM333.2.2.2.2.2.2.2 = some (728, .iload_n 3, 1, 0, 0) := by decide +kernel
theorem f333_729 : aF 729 zM333.2.2.2.2.2.2.2 = some (729, .iconst 3, 1, 0, 0) := by decide +kernel
theorem f333_730 : aF 730 zM333.2.2.2.2.2.2.2 = some (730, .iadd, 1, 0, 0) := by decide +kernel
theorem f333_731 : aF 731 zM333.2.2.2.2.2.2.2 = some (731, .iaload, 1, 0, 0) := by decide +kernel
theorem f333_732 : aF 732 zM333.2.2.2.2.2.2.2 = some (732, .invokevirtual 80, 3, 232, 0) := by decide +kernel
theorem f333_735 : aF 735 zM333.2.2.2.2.2.2.2 = some (735, .if_icmp .eq 1341, 3, 2076, 0) := by decide +kernel
theorem f333_740 : aF 740 zM333.2.2.2.2.2.2.2 = some (740, .aload_n 1, 1, 0, 0) := by decide +kernel
theorem f333_741 : aF 741 zM333.2.2.2.2.2.2.2 = some (741, .aload_n 0, 1, 0, 0) := by decide +kernel
theorem f333_742 : aF 742 zM333.2.2.2.2.2.2.2 = some (742, .iload_n 3, 1, 0, 0) := by decide +kernel
theorem f333_743 : aF 743 zM333.2.2.2.2.2.2.2 = some (743, .iconst 1, 1, 0, 0) := by decide +kernel
theorem f333_744 : aF 744 zM333.2.2.2.2.2.2.2 = some (744, .iadd, 1, 0, 0) := by decide +kernel
theorem f333_745 : aF 745 zM333.2.2.2.2.2.2.2 = some (745, .iaload, 1, 0, 0) := by decide +kernel
theorem f333_746 : aF 746 zM333.2.2.2.2.2.2.2 = some (746, .aload_n 0, 1, 0, 0) := by decide +kernel
theorem f333_747 : aF 747 zM333.2.2.2.2.2.2.2 = some (747, .iload_n 3, 1, 0, 0) := by decide +kernel
theorem f333_748 : aF 748 zM333.2.2.2.2.2.2.2 = some (748, .iconst 2, 1, 0, 0) := by decide +kernel
theorem f333_749 : aF 749 zM333.2.2.2.2.2.2.2 = some (749, .iadd, 1, 0, 0) := by decide +kernel
theorem f333_750 : aF 750 zM333.2.2.2.2.2.2.2 = some (750, .iaload, 1, 0, 0) := by decide +kernel
theorem f333_751 : aF 751 zM333.2.2.2.2.2.2.2 = some (751, .aload_n 0, 1, 0, 0) := by decide +kernel
theorem f333_752 : aF 752 zM333.2.2.2.2.2.2.2 = some (752, .iload_n 3, 1, 0, 0) := by decide +kernel
theorem f333_753 : aF 753 zM333.2.2.2.2.2.2.2 = some (753, .iconst 3, 1, 0, 0) := by decide +kernel
theorem f333_754 : aF 754 zM333.2.2.2.2.2.2.2 = some (754, .iadd, 1, 0, 0) := by decide +kernel
theorem f333_755 : aF 755 zM333.2.2.2.2.2.2.2 = some (755, .iaload, 1, 0, 0) := by decide +kernel
theorem f333_756 : aF 756 zM333.2.2.2.2.2.2.2 = some (756, .aload_n 0, 1, 0, 0) := by decide +kernel
theorem f333_757 : aF 757 zM333.2.2.2.2.2.2.2 = some (757, .iload_n 3, 1, 0, 0) := by decide +kernel
theorem f333_758 : aF 758 zM333.2.2.2.2.2.2.2 = some (758, .iconst 4, 1, 0, 0) := by decide +kernel
theorem f333_759 : aF 759 zM333.2.2.2.2.2.2.2 = some (759, .iadd, 1, 0, 0) := by decide +kernel
theorem f333_760 : aF 760 zM333.2.2.2.2.2.2.2 = some (760, .iaload, 1, 0, 0) := by decide +kernel
theorem f333_761 : aF 761 zM333.2.2.2.2.2.2.2 = some (761, .aload_n 0, 1, 0, 0) := by decide +kernel
theorem f333_762 : aF 762 zM333.2.2.2.2.2.2.2 = some (762, .iload_n 3, 1, 0, 0) := by decide +kernel
theorem f333_763 : aF 763 zM333.2.2.2.2.2.2.2 = some (763, .iconst 5, 1, 0, 0) := by decide +kernel
theorem f333_764 : aF 764 zM333.2.2.2.2.2.2.2 = some (764, .iadd, 1, 0, 0) := by decide +kernel
theorem f333_765 : aF 765 zM333.2.2.2.2.2.2.2 = some (765, .iaload, 1, 0, 0) := by decide +kernel
theorem f333_766 : aF 766 zM333.2.2.2.2.2.2.2 = some (766, .invokevirtual 81, 3, 160, 0) := by decide +kernel
theorem f333_769 : aF 769 zM333.2.2.2.2.2.2.2 = some (769, .aload_n 2, 1, 0, 0) := by decide +kernel
theorem f333_770 : aF 770 zM333.2.2.2.2.2.2.2 = some (770, .aload_n 0, 1, 0, 0) := by decide +kernel
theorem f333_771 : aF 771 zM333.2.2.2.2.2.2.2 = some (771, .iload_n 3, 1, 0, 0) := by decide +kernel
theorem f333_772 : aF 772 zM333.2.2.2.2.2.2.2 = some (772, .iconst 1, 1, 0, 0) := by decide +kernel
theorem f333_773 : aF 773 zM333.2.2.2.2.2.2.2 = some (773, .iadd, 1, 0, 0) := by decide +kernel
theorem f333_774 : aF 774 zM333.2.2.2.2.2.2.2 = some (774, .iaload, 1, 0, 0) := by decide +kernel
theorem f333_775 : aF 775 zM333.2.2.2.2.2.2.2 = some (775, .aload_n 0, 1, 0, 0) := by decide +kernel
theorem f333_776 : aF 776 zM333.2.2.2.2.2.2.2 = some (776, .iload_n 3, 1, 0, 0) := by decide +kernel
theorem f333_777 : aF 777 zM333.2.2.2.2.2.2.2 = some (777, .iconst 2, 1, 0, 0) := by decide +kernel
theorem f333_778 : aF 778 zM333.2.2.2.2.2.2.2 = some (778, .iadd, 1, 0, 0) := by decide +kernel
theorem f333_779 : aF 779 zM333.2.2.2.2.2.2.2 = some (779, .iaload, 1, 0, 0) := by decide +kernel
theorem f333_780 : aF 780 zM333.2.2.2.2.2.2.2 = some (780, .aload_n 0, 1, 0, 0) := by decide +kernel
theorem f333_781 : aF 781 zM333.2.2.2.2.2.2.2 = some (781, .iload_n 3, 1, 0, 0) := by decide +kernel
theorem f333_782 : aF 782 zM333.2.2.2.2.2.2.2 = some (782, .iconst 3, 1, 0, 0) := by decide +kernel
theorem f333_783 : aF 783 zM333.2.2.2.2.2.2.2 = some (783, .iadd, 1, 0, 0) := by decide +kernel
theorem f333_784 : aF 784 zM333.2.2.2.2.2.2.2 = some (784, .iaload, 1, 0, 0) := by decide +kernel
theorem f333_785 : aF 785 zM333.2.2.2.2.2.2.2 = some (785, .aload_n 0, 1, 0, 0) := by decide +kernel
theorem f333_786 : aF 786 zM333.2.2.2.2.2.2.2 = some (786, .iload_n 3, 1, 0, 0) := by decide +kernel
theorem f333_787 : aF 787 zM333.2.2.2.2.2.2.2 = some (787, .iconst 4, 1, 0, 0) := by decide +kernel
theorem f333_788 : aF 788 zM333.2.2.2.2.2.2.2 = some (788, .iadd, 1, 0, 0) := by decide +kernel
theorem f333_789 : aF 789 zM333.2.2.2.2.2.2.2 = some (789, .iaload, 1, 0, 0) := by decide +kernel
theorem f333_790 : aF 790 zM333.2.2.2.2.2.2.2 = some (790, .aload_n 0, 1, 0, 0) := by decide +kernel
theorem f333_791 : aF 791 zM333.2.2.2.2.2.2.2 = some (791, .iload_n 3, 1, 0, 0) := by decide +kernel
theorem f333_792 : aF 792 zM333.2.2.2.2.2.2.2 = some (792, .iconst 5, 1, 0, 0) := by decide +kernel
theorem f333_793 : aF 793 zM333.2.2.2.2.2.2.2 = some (793, .iadd, 1, 0, 0) := by decide +kernel
theorem f333_794 : aF 794 zM333.2.2.2.2.2.2.2 = some (794, .iaload, 1, 0, 0) := by decide +kernel
theorem f333_795 : aF 795 zM333.2.2.2.2.2.2.2 = some (795, .invokevirtual 85, 3, 242, 0) := by decide +kernel
theorem f333_798 : aF 798 zM333.2.2.2.2.2.2.2 = some (798, .if_icmp .eq 1278, 3, 2076, 0) := by decide +kernel
theorem f333_803 : aF 803 zM333.2.2.2.2.2.2.2 = some (803, .aload_n 1, 1, 0, 0) := by decide +kernel
theorem f333_804 : aF 804 zM333.2.2.2.2.2.2.2 = some (804, .aload_n 0, 1, 0, 0) := by decide +kernel
theorem f333_805 : aF 805 zM333.2.2.2.2.2.2.2 = some (805, .iload_n 3, 1, 0, 0) := by decide +kernel
theorem f333_806 : aF 806 zM333.2.2.2.2.2.2.2 = some (806, .iconst 1, 1, 0, 0) := by decide +kernel
theorem f333_807 : aF 807 zM333.2.2.2.2.2.2.2 = some (807, .iadd, 1, 0, 0) := by decide +kernel
theorem f333_808 : aF 808 zM333.2.2.2.2.2.2.2 = some (808, .iaload, 1, 0, 0) := by decide +kernel
theorem f333_809 : aF 809 zM333.2.2.2.2.2.2.2 = some (809, .aload_n 0, 1, 0, 0) := by decide +kernel
theorem f333_810 : aF 810 zM333.2.2.2.2.2.2.2 = some (810, .iload_n 3, 1, 0, 0) := by decide +kernel
theorem f333_811 : aF 811 zM333.2.2.2.2.2.2.2 = some (811, .iconst 2, 1, 0, 0) := by decide +kernel
theorem f333_812 : aF 812 zM333.2.2.2.2.2.2.2 = some (812, .iadd, 1, 0, 0) := by decide +kernel
theorem f333_813 : aF 813 zM333.2.2.2.2.2.2.2 = some (813, .iaload, 1, 0, 0) := by decide +kernel
theorem f333_814 : aF 814 zM333.2.2.2.2.2.2.2 = some (814, .aload_n 0, 1, 0, 0) := by decide +kernel
theorem f333_815 : aF 815 zM333.2.2.2.2.2.2.2 = some (815, .iload_n 3, 1, 0, 0) := by decide +kernel
theorem f333_816 : aF 816 zM333.2.2.2.2.2.2.2 = some (816, .iconst 3, 1, 0, 0) := by decide +kernel
theorem f333_817 : aF 817 zM333.2.2.2.2.2.2.2 = some (817, .iadd, 1, 0, 0) := by decide +kernel
theorem f333_818 : aF 818 zM333.2.2.2.2.2.2.2 = some (818, .iaload, 1, 0, 0) := by decide +kernel
theorem f333_819 : aF 819 zM333.2.2.2.2.2.2.2 = some (819, .aload_n 0, 1, 0, 0) := by decide +kernel
theorem f333_820 : aF 820 zM333.2.2.2.2.2.2.2 = some (820, .iload_n 3, 1, 0, 0) := by decide +kernel
theorem f333_821 : aF 821 zM333.2.2.2.2.2.2.2 = some (821, .iconst 4, 1, 0, 0) := by decide +kernel
theorem f333_822 : aF 822 zM333.2.2.2.2.2.2.2 = some (822, .iadd, 1, 0, 0) := by decide +kernel
theorem f333_823 : aF 823 zM333.2.2.2.2.2.2.2 = some (823, .iaload, 1, 0, 0) := by decide +kernel
theorem f333_824 : aF 824 zM333.2.2.2.2.2.2.2 = some (824, .invokevirtual 86, 3, 161, 0) := by decide +kernel
theorem f333_827 : aF 827 zM333.2.2.2.2.2.2.2 = some (827, .aload_n 2, 1, 0, 0) := by decide +kernel
theorem f333_828 : aF 828 zM333.2.2.2.2.2.2.2 = some (828, .aload_n 0, 1, 0, 0) := by decide +kernel
theorem f333_829 : aF 829 zM333.2.2.2.2.2.2.2 = some (829, .iload_n 3, 1, 0, 0) := by decide +kernel
theorem f333_830 : aF 830 zM333.2.2.2.2.2.2.2 = some (830, .iconst 1, 1, 0, 0) := by decide +kernel
theorem f333_831 : aF 831 zM333.2.2.2.2.2.2.2 = some (831, .iadd, 1, 0, 0) := by decide +kernel
theorem f333_832 : aF 832 zM333.2.2.2.2.2.2.2 = some (832, .iaload, 1, 0, 0) := by decide +kernel
theorem f333_833 : aF 833 zM333.2.2.2.2.2.2.2 = some (833, .aload_n 0, 1, 0, 0) := by decide +kernel
theorem f333_834 : aF 834 zM333.2.2.2.2.2.2.2 = some (834, .iload_n 3, 1, 0, 0) := by decide +kernel
theorem f333_835 : aF 835 zM333.2.2.2.2.2.2.2 = some (835, .iconst 2, 1, 0, 0) := by decide +kernel
theorem f333_836 : aF 836 zM333.2.2.2.2.2.2.2 = some (836, .iadd, 1, 0, 0) := by decide +kernel
theorem f333_837 : aF 837 zM333.2.2.2.2.2.2.2 = some (837, .iaload, 1, 0, 0) := by decide +kernel
theorem f333_838 : aF 838 zM333.2.2.2.2.2.2.2 = some (838, .aload_n 0, 1, 0, 0) := by decide +kernel
theorem f333_839 : aF 839 zM333.2.2.2.2.2.2.2 = some (839, .iload_n 3, 1, 0, 0) := by decide +kernel
theorem f333_840 : aF 840 zM333.2.2.2.2.2.2.2 = some (840, .iconst 3, 1, 0, 0) := by decide +kernel
theorem f333_841 : aF 841 zM333.2.2.2.2.2.2.2 = some (841, .iadd, 1, 0, 0) := by decide +kernel
theorem f333_842 : aF 842 zM333.2.2.2.2.2.2.2 = some (842, .iaload, 1, 0, 0) := by decide +kernel
theorem f333_843 : aF 843 zM333.2.2.2.2.2.2.2 = some (843, .aload_n 0, 1, 0, 0) := by decide +kernel
theorem f333_844 : aF 844 zM333.2.2.2.2.2.2.2 = some (844, .iload_n 3, 1, 0, 0) := by decide +kernel
theorem f333_845 : aF 845 zM333.2.2.2.2.2.2.2 = some (845, .iconst 4, 1, 0, 0) := by decide +kernel
theorem f333_846 : aF 846 zM333.2.2.2.2.2.2.2 = some (846, .iadd, 1, 0, 0) := by decide +kernel
theorem f333_847 : aF 847 zM333.2.2.2.2.2.2.2 = some (847, .iaload, 1, 0, 0) := by decide +kernel
theorem f333_848 : aF 848 zM333.2.2.2.2.2.2.2 = some (848, .invokevirtual 90, 3, 243, 0) := by decide +kernel
theorem f333_851 : aF 851 zM333.2.2.2.2.2.2.2 = some (851, .if_icmp .eq 1225, 3, 2076, 0) := by decide +kernel
theorem f333_856 : aF 856 zM333.2.2.2.2.2.2.2 = some (856, .aload_n 1, 1, 0, 0) := by decide +kernel
theorem f333_857 : aF 857 zM333.2.2.2.2.2.2.2 = some (857, .aload_n 0, 1, 0, 0) := by decide +kernel
theorem f333_858 : aF 858 zM333.2.2.2.2.2.2.2 = some (858, .iload_n 3, 1, 0, 0) := by decide +kernel
theorem f333_859 : aF 859 zM333.2.2.2.2.2.2.2 = some (859, .iconst 1, 1, 0, 0) := by decide +kernel
theorem f333_860 : aF 860 zM333.2.2.2.2.2.2.2 = some (860, .iadd, 1, 0, 0) := by decide +kernel
theorem f333_861 : aF 861 zM333.2.2.2.2.2.2.2 = some (861, .iaload, 1, 0, 0) := by decide +kernel
theorem f333_862 : aF 862 zM333.2.2.2.2.2.2.2 = some (862, .aload_n 0, 1, 0, 0) := by decide +kernel
theorem f333_863 : aF 863 zM333.2.2.2.2.2.2.2 = some (863, .iload_n 3, 1, 0, 0) := by decide +kernel
theorem f333_864 : aF 864 zM333.2.2.2.2.2.2.2 = some (864, .iconst 2, 1, 0, 0) := by decide +kernel
theorem f333_865 : aF 865 zM333.2.2.2.2.2.2.2 = some (865, .iadd, 1, 0, 0) := by decide +kernel
theorem f333_866 : aF 866 zM333.2.2.2.2.2.2.2 = some (866, .iaload, 1, 0, 0) := by decide +kernel
theorem f333_867 : aF 867 zM333.2.2.2.2.2.2.2 = some (867, .invokevirtual 91, 3, 162, 0) := by decide +kernel
theorem f333_870 : aF 870 zM333.2.2.2.2.2.2.2 = some (870, .aload_n 2, 1, 0, 0) := by decide +kernel
theorem f333_871 : aF 871 zM333.2.2.2.2.2.2.2 = some (871, .aload_n 0, 1, 0, 0) := by decide +kernel
theorem f333_872 : aF 872 zM333.2.2.2.2.2.2.2 = some (872, .iload_n 3, 1, 0, 0) := by decide +kernel
theorem f333_873 : aF 873 zM333.2.2.2.2.2.2.2 = some (873, .iconst 1, 1, 0, 0) := by decide +kernel
theorem f333_874 : aF 874 zM333.2.2.2.2.2.2.2 = some (874, .iadd, 1, 0, 0) := by decide +kernel
theorem f333_875 : aF 875 zM333.2.2.2.2.2.2.2 = some (875, .iaload, 1, 0, 0) := by decide +kernel
theorem f333_876 : aF 876 zM333.2.2.2.2.2.2.2 = some (876, .aload_n 0, 1, 0, 0) := by decide +kernel
theorem f333_877 : aF 877 zM333.2.2.2.2.2.2.2 = some (877, .iload_n 3, 1, 0, 0) := by decide +kernel
theorem f333_878 : aF 878 zM333.2.2.2.2.2.2.2 = some (878, .iconst 2, 1, 0, 0) := by decide +kernel
theorem f333_879 : aF 879 zM333.2.2.2.2.2.2.2 = some (879, .iadd, 1, 0, 0) := by decide +kernel
theorem f333_880 : aF 880 zM333.2.2.2.2.2.2.2 = some (880, .iaload, 1, 0, 0) := by decide +kernel
theorem f333_881 : aF 881 zM333.2.2.2.2.2.2.2 = some (881, .invokevirtual 94, 3, 244, 0) := by decide +kernel
theorem f333_884 : aF 884 zM333.2.2.2.2.2.2.2 = some (884, .if_icmp .eq 1192, 3, 2076, 0) := by decide +kernel
theorem f333_889 : aF 889 zM333.2.2.2.2.2.2.2 = some (889, .aload_n 1, 1, 0, 0) := by decide +kernel
theorem f333_890 : aF 890 zM333.2.2.2.2.2.2.2 = some (890, .aload_n 0, 1, 0, 0) := by decide +kernel
theorem f333_891 : aF 891 zM333.2.2.2.2.2.2.2 = some (891, .iload_n 3, 1, 0, 0) := by decide +kernel
theorem f333_892 : aF 892 zM333.2.2.2.2.2.2.2 = some (892, .iconst 1, 1, 0, 0) := by decide +kernel
theorem f333_893 : aF 893 zM333.2.2.2.2.2.2.2 = some (893, .iadd, 1, 0, 0) := by decide +kernel
theorem f333_894 : aF 894 zM333.2.2.2.2.2.2.2 = some (894, .iaload, 1, 0, 0) := by decide +kernel
theorem f333_895 : aF 895 zM333.2.2.2.2.2.2.2 = some (895, .aload_n 0, 1, 0, 0) := by decide +kernel
theorem f333_896 : aF 896 zM333.2.2.2.2.2.2.2 = some (896, .iload_n 3, 1, 0, 0) := by decide +kernel
theorem f333_897 : aF 897 zM333.2.2.2.2.2.2.2 = some (897, .iconst 2, 1, 0, 0) := by decide +kernel
theorem f333_898 : aF 898 zM333.2.2.2.2.2.2.2 = some (898, .iadd, 1, 0, 0) := by decide +kernel
theorem f333_899 : aF 899 zM333.2.2.2.2.2.2.2 = some (899, .iaload, 1, 0, 0) := by decide +kernel
theorem f333_900 : aF 900 zM333.2.2.2.2.2.2.2 = some (900, .aload_n 0, 1, 0, 0) := by decide +kernel
theorem f333_901 : aF 901 zM333.2.2.2.2.2.2.2 = some (901, .iload_n 3, 1, 0, 0) := by decide +kernel
theorem f333_902 : aF 902 zM333.2.2.2.2.2.2.2 = some (902, .iconst 3, 1, 0, 0) := by decide +kernel
theorem f333_903 : aF 903 zM333.2.2.2.2.2.2.2 = some (903, .iadd, 1, 0, 0) := by decide +kernel
theorem f333_904 : aF 904 zM333.2.2.2.2.2.2.2 = some (904, .iaload, 1, 0, 0) := by decide +kernel
theorem f333_905 : aF 905 zM333.2.2.2.2.2.2.2 = some (905, .invokevirtual 95, 3, 163, 0) := by decide +kernel
theorem f333_908 : aF 908 zM333.2.2.2.2.2.2.2 = some (908, .aload_n 2, 1, 0, 0) := by decide +kernel
theorem f333_909 : aF 909 zM333.2.2.2.2.2.2.2 = some (909, .aload_n 0, 1, 0, 0) := by decide +kernel
theorem f333_910 : aF 910 zM333.2.2.2.2.2.2.2 = some (910, .iload_n 3, 1, 0, 0) := by decide +kernel
theorem f333_911 : aF 911 zM333.2.2.2.2.2.2.2 = some (911, .iconst 1, 1, 0, 0) := by decide +kernel
theorem f333_912 : aF 912 zM333.2.2.2.2.2.2.2 = some (912, .iadd, 1, 0, 0) := by decide +kernel
theorem f333_913 : aF 913 zM333.2.2.2.2.2.2.2 = some (913, .iaload, 1, 0, 0) := by decide +kernel
theorem f333_914 : aF 914 zM333.2.2.2.2.2.2.2 = some (914, .aload_n 0, 1, 0, 0) := by decide +kernel
theorem f333_915 : aF 915 zM333.2.2.2.2.2.2.2 = some (915, .iload_n 3, 1, 0, 0) := by decide +kernel
theorem f333_916 : aF 916 zM333.2.2.2.2.2.2.2 = some (916, .iconst 2, 1, 0, 0) := by decide +kernel
theorem f333_917 : aF 917 zM333.2.2.2.2.2.2.2 = some (917, .iadd, 1, 0, 0) := by decide +kernel
theorem f333_918 : aF 918 zM333.2.2.2.2.2.2.2 = some (918, .iaload, 1, 0, 0) := by decide +kernel
theorem f333_919 : aF 919 zM333.2.2.2.2.2.2.2 = some (919, .aload_n 0, 1, 0, 0) := by decide +kernel
theorem f333_920 : aF 920 zM333.2.2.2.2.2.2.2 = some (920, .iload_n 3, 1, 0, 0) := by decide +kernel
theorem f333_921 : aF 921 zM333.2.2.2.2.2.2.2 = some (921, .iconst 3, 1, 0, 0) := by decide +kernel
theorem f333_922 : aF 922 zM333.2.2.2.2.2.2.2 = some (922, .iadd, 1, 0, 0) := by decide +kernel
theorem f333_923 : aF 923 zM333.2.2.2.2.2.2.2 = some (923, .iaload, 1, 0, 0) := by decide +kernel
theorem f333_924 : aF 924 zM333.2.2.2.2.2.2.2 = some (924, .invokevirtual 98, 3, 245, 0) := by decide +kernel
theorem f333_927 : aF 927 zM333.2.2.2.2.2.2.2 = some (927, .if_icmp .eq 1149, 3, 2076, 0) := by decide +kernel
theorem f333_932 : aF 932 zM333.2.2.2.2.2.2.2 = some (932, .aload_n 1, 1, 0, 0) := by decide +kernel
theorem f333_933 : aF 933 zM333.2.2.2.2.2.2.2 = some (933, .aload_n 0, 1, 0, 0) := by decide +kernel
theorem f333_934 : aF 934 zM333.2.2.2.2.2.2.2 = some (934, .iload_n 3, 1, 0, 0) := by decide +kernel
theorem f333_935 : aF 935 zM333.2.2.2.2.2.2.2 = some (935, .iconst 1, 1, 0, 0) := by decide +kernel
theorem f333_936 : aF 936 zM333.2.2.2.2.2.2.2 = some (936, .iadd, 1, 0, 0) := by decide +kernel
theorem f333_937 : aF 937 zM333.2.2.2.2.2.2.2 = some (937, .iaload, 1, 0, 0) := by decide +kernel
theorem f333_938 : aF 938 zM333.2.2.2.2.2.2.2 = some (938, .aload_n 0, 1, 0, 0) := by decide +kernel
theorem f333_939 : aF 939 zM333.2.2.2.2.2.2.2 = some (939, .iload_n 3, 1, 0, 0) := by decide +kernel
theorem f333_940 : aF 940 zM333.2.2.2.2.2.2.2 = some (940, .iconst 2, 1, 0, 0) := by decide +kernel
theorem f333_941 : aF 941 zM333.2.2.2.2.2.2.2 = some (941, .iadd, 1, 0, 0) := by decide +kernel
theorem f333_942 : aF 942 zM333.2.2.2.2.2.2.2 = some (942, .iaload, 1, 0, 0) := by decide +kernel
theorem f333_943 : aF 943 zM333.2.2.2.2.2.2.2 = some (943, .aload_n 0, 1, 0, 0) := by decide +kernel
theorem f333_944 : aF 944 zM333.2.2.2.2.2.2.2 = some (944, .iload_n 3, 1, 0, 0) := by decide +kernel
theorem f333_945 : aF 945 zM333.2.2.2.2.2.2.2 = some (945, .iconst 3, 1, 0, 0) := by decide +kernel
theorem f333_946 : aF 946 zM333.2.2.2.2.2.2.2 = some (946, .iadd, 1, 0, 0) := by decide +kernel
theorem f333_947 : aF 947 zM333.2.2.2.2.2.2.2 = some (947, .iaload, 1, 0, 0) := by decide +kernel
theorem f333_948 : aF 948 zM333.2.2.2.2.2.2.2 = some (948, .aload_n 0, 1, 0, 0) := by decide +kernel
theorem f333_949 : aF 949 zM333.2.2.2.2.2.2.2 = some (949, .iload_n 3, 1, 0, 0) := by decide +kernel
theorem f333_950 : aF 950 zM333.2.2.2.2.2.2.2 = some (950, .iconst 4, 1, 0, 0) := by decide +kernel
theorem f333_951 : aF 951 zM333.2.2.2.2.2.2.2 = some (951, .iadd, 1, 0, 0) := by decide +kernel
theorem f333_952 : aF 952 zM333.2.2.2.2.2.2.2 = some (952, .iaload, 1, 0, 0) := by decide +kernel
theorem f333_953 : aF 953 zM333.2.2.2.2.2.2.2 = some (953, .invokevirtual 99, 3, 164, 0) := by decide +kernel
theorem f333_956 : aF 956 zM333.2.2.2.2.2.2.2 = some (956, .aload_n 2, 1, 0, 0) := by decide +kernel
theorem f333_957 : aF 957 zM333.2.2.2.2.2.2.2 = some (957, .aload_n 0, 1, 0, 0) := by decide +kernel
theorem f333_958 : aF 958 zM333.2.2.2.2.2.2.2 = some (958, .iload_n 3, 1, 0, 0) := by decide +kernel
theorem f333_959 : aF 959 zM333.2.2.2.2.2.2.2 = some (959, .iconst 1, 1, 0, 0) := by decide +kernel
theorem f333_960 : aF 960 zM333.2.2.2.2.2.2.2 = some (960, .iadd, 1, 0, 0) := by decide +kernel
theorem f333_961 : aF 961 zM333.2.2.2.2.2.2.2 = some (961, .iaload, 1, 0, 0) := by decide +kernel
theorem f333_962 : aF 962 zM333.2.2.2.2.2.2.2 = some (962, .aload_n 0, 1, 0, 0) := by decide +kernel
theorem f333_963 : aF 963 zM333.2.2.2.2.2.2.2 = some (963, .iload_n 3, 1, 0, 0) := by decide +kernel
theorem f333_964 : aF 964 zM333.2.2.2.2.2.2.2 = some (964, .iconst 2, 1, 0, 0) := by decide +kernel
theorem f333_965 : aF 965 zM333.2.2.2.2.2.2.2 = some (965, .iadd, 1, 0, 0) := by decide +kernel
theorem f333_966 : aF 966 zM333.2.2.2.2.2.2.2 = some (966, .iaload, 1, 0, 0) := by decide +kernel
theorem f333_967 : aF 967 zM333.2.2.2.2.2.2.2 = some (967, .aload_n 0, 1, 0, 0) := by decide +kernel
theorem f333_968 : aF 968 zM333.2.2.2.2.2.2.2 = some (968, .iload_n 3, 1, 0, 0) := by decide +kernel
theorem f333_969 : aF 969 zM333.2.2.2.2.2.2.2 = some (969, .iconst 3, 1, 0, 0) := by decide +kernel
theorem f333_970 : aF 970 zM333.2.2.2.2.2.2.2 = some (970, .iadd, 1, 0, 0) := by decide +kernel
theorem f333_971 : aF 971 zM333.2.2.2.2.2.2.2 = some (971, .iaload, 1, 0, 0) := by decide +kernel
theorem f333_972 : aF 972 zM333.2.2.2.2.2.2.2 = some (972, .aload_n 0, 1, 0, 0) := by decide +kernel
theorem f333_973 : aF 973 zM333.2.2.2.2.2.2.2 = some (973, .iload_n 3, 1, 0, 0) := by decide +kernel
theorem f333_974 : aF 974 zM333.2.2.2.2.2.2.2 = some (974, .iconst 4, 1, 0, 0) := by decide +kernel
theorem f333_975 : aF 975 zM333.2.2.2.2.2.2.2 = some (975, .iadd, 1, 0, 0) := by decide +kernel
theorem f333_976 : aF 976 zM333.2.2.2.2.2.2.2 = some (976, .iaload, 1, 0, 0) := by decide +kernel
theorem f333_977 : aF 977 zM333.2.2.2.2.2.2.2 = some (977, .invokevirtual 102, 3, 247, 0) := by decide +kernel
theorem f333_980 : aF 980 zM333.2.2.2.2.2.2.2 = some (980, .if_icmp .eq 1096, 3, 2076, 0) := by decide +kernel
theorem f333_985 : aF 985 zM333.2.2.2.2.2.2.2 = some (985, .aload_n 1, 1, 0, 0) := by decide +kernel
theorem f333_986 : aF 986 zM333.2.2.2.2.2.2.2 = some (986, .aload_n 0, 1, 0, 0) := by decide +kernel
theorem f333_987 : aF 987 zM333.2.2.2.2.2.2.2 = some (987, .iload_n 3, 1, 0, 0) := by decide +kernel
theorem f333_988 : aF 988 zM333.2.2.2.2.2.2.2 = some (988, .iconst 1, 1, 0, 0) := by decide +kernel
theorem f333_989 : aF 989 zM333.2.2.2.2.2.2.2 = some (989, .iadd, 1, 0, 0) := by decide +kernel
theorem f333_990 : aF 990 zM333.2.2.2.2.2.2.2 = some (990, .iaload, 1, 0, 0) := by decide +kernel
theorem f333_991 : aF 991 zM333.2.2.2.2.2.2.2 = some (991, .invokevirtual 103, 3, 165, 0) := by decide +kernel
theorem f333_994 : aF 994 zM333.2.2.2.2.2.2.2 = some (994, .aload_n 2, 1, 0, 0) := by decide +kernel
theorem f333_995 : aF 995 zM333.2.2.2.2.2.2.2 = some (995, .aload_n 0, 1, 0, 0) := by decide +kernel
theorem f333_996 : aF 996 zM333.2.2.2.2.2.2.2 = some (996, .iload_n 3, 1, 0, 0) := by decide +kernel
theorem f333_997 : aF 997 zM333.2.2.2.2.2.2.2 = some (997, .iconst 1, 1, 0, 0) := by decide +kernel
theorem f333_998 : aF 998 zM333.2.2.2.2.2.2.2 = some (998, .iadd, 1, 0, 0) := by decide +kernel
theorem f333_999 : aF 999 zM333.2.2.2.2.2.2.2 = some (999, .iaload, 1, 0, 0) := by decide +kernel
theorem f333_1000 : aF 1000 zM333.2.2.2.2.2.2.2 = some (1000, .invokevirtual 106, 3, 246, 0) := by decide +kernel
theorem f333_1003 : aF 1003 zM333.2.2.2.2.2.2.2 = some (1003, .if_icmp .eq 1073, 3, 2076, 0) := by decide +kernel
theorem f333_1008 : aF 1008 zM333.2.2.2.2.2.2.2 = some (1008, .aload_n 1, 1, 0, 0) := by decide +kernel
theorem f333_1009 : aF 1009 zM333.2.2.2.2.2.2.2 = some (1009, .aload_n 0, 1, 0, 0) := by decide +kernel
theorem f333_1010 : aF 1010 zM333.2.2.2.2.2.2.2 = some (1010, .iload_n 3, 1, 0, 0) := by decide +kernel
theorem f333_1011 : aF 1011 zM333.2.2.2.2.2.2.2 = some (1011, .iconst 1, 1, 0, 0) := by decide +kernel
theorem f333_1012 : aF 1012 zM333.2.2.2.2.2.2.2 = some (1012, .iadd, 1, 0, 0) := by decide +kernel
theorem f333_1013 : aF 1013 zM333.2.2.2.2.2.2.2 = some (1013, .iaload, 1, 0, 0) := by decide +kernel
theorem f333_1014 : aF 1014 zM333.2.2.2.2.2.2.2 = some (1014, .aload_n 0, 1, 0, 0) := by decide +kernel
theorem f333_1015 : aF 1015 zM333.2.2.2.2.2.2.2 = some (1015, .iload_n 3, 1, 0, 0) := by decide +kernel
theorem f333_1016 : aF 1016 zM333.2.2.2.2.2.2.2 = some (1016, .iconst 2, 1, 0, 0) := by decide +kernel
theorem f333_1017 : aF 1017 zM333.2.2.2.2.2.2.2 = some (1017, .iadd, 1, 0, 0) := by decide +kernel
theorem f333_1018 : aF 1018 zM333.2.2.2.2.2.2.2 = some (1018, .iaload, 1, 0, 0) := by decide +kernel
theorem f333_1019 : aF 1019 zM333.2.2.2.2.2.2.2 = some (1019, .aload_n 0, 1, 0, 0) := by decide +kernel
theorem f333_1020 : aF 1020 zM333.2.2.2.2.2.2.2 = some (1020, .iload_n 3, 1, 0, 0) := by decide +kernel
theorem f333_1021 : aF 1021 zM333.2.2.2.2.2.2.2 = some (1021, .iconst 3, 1, 0, 0) := by decide +kernel
theorem f333_1022 : aF 1022 zM333.2.2.2.2.2.2.2 = some (1022, .iadd, 1, 0, 0) := by decide +kernel
theorem f333_1023 : aF 1023 zM333.2.2.2.2.2.2.2 = some (1023, .iaload, 1, 0, 0) := by decide +kernel
theorem f333_1024 : aF 1024 zM333.2.2.2.2.2.2.2 = some (1024, .invokevirtual 107, 3, 166, 0) := by decide +kernel
theorem f333_1027 : aF 1027 zM333.2.2.2.2.2.2.2 = some (1027, .aload_n 2, 1, 0, 0) := by decide +kernel
theorem f333_1028 : aF 1028 zM333.2.2.2.2.2.2.2 = some (1028, .aload_n 0, 1, 0, 0) := by decide +kernel
theorem f333_1029 : aF 1029 zM333.2.2.2.2.2.2.2 = some (1029, .iload_n 3, 1, 0, 0) := by decide +kernel
theorem f333_1030 : aF 1030 zM333.2.2.2.2.2.2.2 = some (1030, .iconst 1, 1, 0, 0) := by decide +kernel
theorem f333_1031 : aF 1031 zM333.2.2.2.2.2.2.2 = some (1031, .iadd, 1, 0, 0) := by decide +kernel
theorem f333_1032 : aF 1032 zM333.2.2.2.2.2.2.2 = some (1032, .iaload, 1, 0, 0) := by decide +kernel
theorem f333_1033 : aF 1033 zM333.2.2.2.2.2.2.2 = some (1033, .aload_n 0, 1, 0, 0) := by decide +kernel
theorem f333_1034 : aF 1034 zM333.2.2.2.2.2.2.2 = some (1034, .iload_n 3, 1, 0, 0) := by decide +kernel
theorem f333_1035 : aF 1035 zM333.2.2.2.2.2.2.2 = some (1035, .iconst 2, 1, 0, 0) := by decide +kernel
theorem f333_1036 : aF 1036 zM333.2.2.2.2.2.2.2 = some (1036, .iadd, 1, 0, 0) := by decide +kernel
theorem f333_1037 : aF 1037 zM333.2.2.2.2.2.2.2 = some (1037, .iaload, 1, 0, 0) := by decide +kernel
theorem f333_1038 : aF 1038 zM333.2.2.2.2.2.2.2 = some (1038, .aload_n 0, 1, 0, 0) := by decide +kernel
theorem f333_1039 : aF 1039 zM333.2.2.2.2.2.2.2 = some (1039, .iload_n 3, 1, 0, 0) := by decide +kernel
theorem f333_1040 : aF 1040 zM333.2.2.2.2.2.2.2 = some (1040, .iconst 3, 1, 0, 0) := by decide +kernel
theorem f333_1041 : aF 1041 zM333.2.2.2.2.2.2.2 = some (1041, .iadd, 1, 0, 0) := by decide +kernel
theorem f333_1042 : aF 1042 zM333.2.2.2.2.2.2.2 = some (1042, .iaload, 1, 0, 0) := by decide +kernel
theorem f333_1043 : aF 1043 zM333.2.2.2.2.2.2.2 = some (1043, .invokevirtual 110, 3, 249, 0) := by decide +kernel
theorem f333_1046 : aF 1046 zM333.2.2.2.2.2.2.2 = some (1046, .if_icmp .eq 1030, 3, 2076, 0) := by decide +kernel
theorem f333_1051 : aF 1051 zM333.2.2.2.2.2.2.2 = some (1051, .aload_n 1, 1, 0, 0) := by decide +kernel
theorem f333_1052 : aF 1052 zM333.2.2.2.2.2.2.2 = some (1052, .aload_n 0, 1, 0, 0) := by decide +kernel
theorem f333_1053 : aF 1053 zM333.2.2.2.2.2.2.2 = some (1053, .iload_n 3, 1, 0, 0) := by decide +kernel
theorem f333_1054 : aF 1054 zM333.2.2.2.2.2.2.2 = some (1054, .iconst 1, 1, 0, 0) := by decide +kernel
theorem f333_1055 : aF 1055 zM333.2.2.2.2.2.2.2 = some (1055, .iadd, 1, 0, 0) := by decide +kernel
theorem f333_1056 : aF 1056 zM333.2.2.2.2.2.2.2 = some (1056, .iaload, 1, 0, 0) := by decide +kernel
theorem f333_1057 : aF 1057 zM333.2.2.2.2.2.2.2 = some (1057, .aload_n 0, 1, 0, 0) := by decide +kernel
theorem f333_1058 : aF 1058 zM333.2.2.2.2.2.2.2 = some (1058, .iload_n 3, 1, 0, 0) := by decide +kernel
theorem f333_1059 : aF 1059 zM333.2.2.2.2.2.2.2 = some (1059, .iconst 2, 1, 0, 0) := by decide +kernel
theorem f333_1060 : aF 1060 zM333.2.2.2.2.2.2.2 = some (1060, .iadd, 1, 0, 0) := by decide +kernel
theorem f333_1061 : aF 1061 zM333.2.2.2.2.2.2.2 = some (1061, .iaload, 1, 0, 0) := by decide +kernel
theorem f333_1062 : aF 1062 zM333.2.2.2.2.2.2.2 = some (1062, .invokevirtual 111, 3, 167, 0) := by decide +kernel
theorem f333_1065 : aF 1065 zM333.2.2.2.2.2.2.2 = some (1065, .aload_n 2, 1, 0, 0) := by decide +kernel
theorem f333_1066 : aF 1066 zM333.2.2.2.2.2.2.2 = some (1066, .aload_n 0, 1, 0, 0) := by decide +kernel
theorem f333_1067 : aF 1067 zM333.2.2.2.2.2.2.2 = some (1067, .iload_n 3, 1, 0, 0) := by decide +kernel
theorem f333_1068 : aF 1068 zM333.2.2.2.2.2.2.2 = some (1068, .iconst 1, 1, 0, 0) := by decide +kernel
theorem f333_1069 : aF 1069 zM333.2.2.2.2.2.2.2 = some (1069, .iadd, 1, 0, 0) := by decide +kernel
theorem f333_1070 : aF 1070 zM333.2.2.2.2.2.2.2 = some (1070, .iaload, 1, 0, 0) := by decide +kernel
theorem f333_1071 : aF 1071 zM333.2.2.2.2.2.2.2 = some (1071, .aload_n 0, 1, 0, 0) := by decide +kernel
theorem f333_1072 : aF 1072 zM333.2.2.2.2.2.2.2 = some (1072, .iload_n 3, 1, 0, 0) := by decide +kernel
theorem f333_1073 : aF 1073 zM333.2.2.2.2.2.2.2 = some (1073, .iconst 2, 1, 0, 0) := by decide +kernel
theorem f333_1074 : aF 1074 zM333.2.2.2.2.2.2.2 = some (1074, .iadd, 1, 0, 0) := by decide +kernel
theorem f333_1075 : aF 1075 zM333.2.2.2.2.2.2.2 = some (1075, .iaload, 1, 0, 0) := by decide +kernel
theorem f333_1076 : aF 1076 zM333.2.2.2.2.2.2.2 = some (1076, .invokevirtual 114, 3, 250, 0) := by decide +kernel
theorem f333_1079 : aF 1079 zM333.2.2.2.2.2.2.2 = some (1079, .if_icmp .eq 997, 3, 2076, 0) := by decide +kernel
theorem f333_1084 : aF 1084 zM333.2.2.2.2.2.2.2 = some (1084, .aload_n 1, 1, 0, 0) := by decide +kernel
theorem f333_1085 : aF 1085 zM333.2.2.2.2.2.2.2 = some (1085, .aload_n 0, 1, 0, 0) := by decide +kernel
theorem f333_1086 : aF 1086 zM333.2.2.2.2.2.2.2 = some (1086, .iload_n 3, 1, 0, 0) := by decide +kernel
theorem f333_1087 : aF 1087 zM333.2.2.2.2.2.2.2 = some (1087, .iconst 1, 1, 0, 0) := by decide +kernel
theorem f333_1088 : aF 1088 zM333.2.2.2.2.2.2.2 = some (1088, .iadd, 1, 0, 0) := by decide +kernel
theorem f333_1089 : aF 1089 zM333.2.2.2.2.2.2.2 = some (1089, .iaload, 1, 0, 0) := by decide +kernel
theorem f333_1090 : aF 1090 zM333.2.2.2.2.2.2.2 = some (1090, .aload_n 0, 1, 0, 0) := by decide +kernel
theorem f333_1091 : aF 1091 zM333.2.2.2.2.2.2.2 = some (1091, .iload_n 3, 1, 0, 0) := by decide +kernel
theorem f333_1092 : aF 1092 zM333.2.2.2.2.2.2.2 = some (1092, .iconst 2, 1, 0, 0) := by decide +kernel
theorem f333_1093 : aF 1093 zM333.2.2.2.2.2.2.2 = some (1093, .iadd, 1, 0, 0) := by decide +kernel
theorem f333_1094 : aF 1094 zM333.2.2.2.2.2.2.2 = some (1094, .iaload, 1, 0, 0) := by decide +kernel
theorem f333_1095 : aF 1095 zM333.2.2.2.2.2.2.2 = some (1095, .invokevirtual 115, 3, 168, 0) := by decide +kernel
theorem f333_1098 : aF 1098 zM333.2.2.2.2.2.2.2 = some (1098, .aload_n 2, 1, 0, 0) := by decide +kernel
theorem f333_1099 : aF 1099 zM333.2.2.2.2.2.2.2 = some (1099, .aload_n 0, 1, 0, 0) := by decide +kernel
theorem f333_1100 : aF 1100 zM333.2.2.2.2.2.2.2 = some (1100, .iload_n 3, 1, 0, 0) := by decide +kernel
theorem f333_1101 : aF 1101 zM333.2.2.2.2.2.2.2 = some (1101, .iconst 1, 1, 0, 0) := by decide +kernel
theorem f333_1102 : aF 1102 zM333.2.2.2.2.2.2.2 = some (1102, .iadd, 1, 0, 0) := by decide +kernel
theorem f333_1103 : aF 1103 zM333.2.2.2.2.2.2.2 = some (1103, .iaload, 1, 0, 0) := by decide +kernel
theorem f333_1104 : aF 1104 zM333.2.2.2.2.2.2.2 = some (1104, .aload_n 0, 1, 0, 0) := by decide +kernel
theorem f333_1105 : aF 1105 zM333.2.2.2.2.2.2.2 = some (1105, .iload_n 3, 1, 0, 0) := by decide +kernel
theorem f333_1106 : aF 1106 zM333.2.2.2.2.2.2.2 = some (1106, .iconst 2, 1, 0, 0) := by decide +kernel
theorem f333_1107 : aF 1107 zM333.2.2.2.2.2.2.2 = some (1107, .iadd, 1, 0, 0) := by decide +kernel
theorem f333_1108 : aF 1108 zM333.2.2.2.2.2.2.2 = some (1108, .iaload, 1, 0, 0) := by decide +kernel
theorem f333_1109 : aF 1109 zM333.2.2.2.2.2.2.2 = some (1109, .invokevirtual 118, 3, 264, 0) := by decide +kernel
theorem f333_1112 : aF 1112 zM333.2.2.2.2.2.2.2 = some (1112, .if_icmp .eq 964, 3, 2076, 0) := by decide +kernel
theorem f333_1117 : aF 1117 zM333.2.2.2.2.2.2.2 = some (1117, .aload_n 1, 1, 0, 0) := by decide +kernel
theorem f333_1118 : aF 1118 zM333.2.2.2.2.2.2.2 = some (1118, .aload_n 0, 1, 0, 0) := by decide +kernel
theorem f333_1119 : aF 1119 zM333.2.2.2.2.2.2.2 = some (1119, .iload_n 3, 1, 0, 0) := by decide +kernel
theorem f333_1120 : aF 1120 zM333.2.2.2.2.2.2.2 = some (1120, .iconst 1, 1, 0, 0) := by decide +kernel
theorem f333_1121 : aF 1121 zM333.2.2.2.2.2.2.2 = some (1121, .iadd, 1, 0, 0) := by decide +kernel
theorem f333_1122 : aF 1122 zM333.2.2.2.2.2.2.2 = some (1122, .iaload, 1, 0, 0) := by decide +kernel
theorem f333_1123 : aF 1123 zM333.2.2.2.2.2.2.2 = some (1123, .aload_n 0, 1, 0, 0) := by decide +kernel
theorem f333_1124 : aF 1124 zM333.2.2.2.2.2.2.2 = some (1124, .iload_n 3, 1, 0, 0) := by decide +kernel
theorem f333_1125 : aF 1125 zM333.2.2.2.2.2.2.2 = some (1125, .iconst 2, 1, 0, 0) := by decide +kernel
theorem f333_1126 : aF 1126 zM333.2.2.2.2.2.2.2 = some (1126, .iadd, 1, 0, 0) := by decide +kernel
theorem f333_1127 : aF 1127 zM333.2.2.2.2.2.2.2 = some (1127, .iaload, 1, 0, 0) := by decide +kernel
theorem f333_1128 : aF 1128 zM333.2.2.2.2.2.2.2 = some (1128, .aload_n 0, 1, 0, 0) := by decide +kernel
theorem f333_1129 : aF 1129 zM333.2.2.2.2.2.2.2 = some (1129, .iload_n 3, 1, 0, 0) := by decide +kernel
theorem f333_1130 : aF 1130 zM333.2.2.2.2.2.2.2 = some (1130, .iconst 3, 1, 0, 0) := by decide +kernel
theorem f333_1131 : aF 1131 zM333.2.2.2.2.2.2.2 = some (1131, .iadd, 1, 0, 0) := by decide +kernel
theorem f333_1132 : aF 1132 zM333.2.2.2.2.2.2.2 = some (1132, .iaload, 1, 0, 0) := by decide +kernel
theorem f333_1133 : aF 1133 zM333.2.2.2.2.2.2.2 = some (1133, .invokevirtual 119, 3, 169, 0) := by decide +kernel
theorem f333_1136 : aF 1136 zM333.2.2.2.2.2.2.2 = some (1136, .aload_n 2, 1, 0, 0) := by decide +kernel
theorem f333_1137 : aF 1137 zM333.2.2.2.2.2.2.2 = some (1137, .aload_n 0, 1, 0, 0) := by decide +kernel
theorem f333_1138 : aF 1138 zM333.2.2.2.2.2.2.2 = some (1138, .iload_n 3, 1, 0, 0) := by decide +kernel
theorem f333_1139 : aF 1139 zM333.2.2.2.2.2.2.2 = some (1139, .iconst 1, 1, 0, 0) := by decide +kernel
theorem f333_1140 : aF 1140 zM333.2.2.2.2.2.2.2 = some (1140, .iadd, 1, 0, 0) := by decide +kernel
theorem f333_1141 : aF 1141 zM333.2.2.2.2.2.2.2 = some (1141, .iaload, 1, 0, 0) := by decide +kernel
theorem f333_1142 : aF 1142 zM333.2.2.2.2.2.2.2 = some (1142, .aload_n 0, 1, 0, 0) := by decide +kernel
theorem f333_1143 : aF 1143 zM333.2.2.2.2.2.2.2 = some (1143, .iload_n 3, 1, 0, 0) := by decide +kernel
theorem f333_1144 : aF 1144 zM333.2.2.2.2.2.2.2 = some (1144, .iconst 2, 1, 0, 0) := by decide +kernel
theorem f333_1145 : aF 1145 zM333.2.2.2.2.2.2.2 = some (1145, .iadd, 1, 0, 0) := by decide +kernel
theorem f333_1146 : aF 1146 zM333.2.2.2.2.2.2.2 = some (1146, .iaload, 1, 0, 0) := by decide +kernel
theorem f333_1147 : aF 1147 zM333.2.2.2.2.2.2.2 = some (1147, .aload_n 0, 1, 0, 0) := by decide +kernel
theorem f333_1148 : aF 1148 zM333.2.2.2.2.2.2.2 = some (1148, .iload_n 3, 1, 0, 0) := by decide +kernel
theorem f333_1149 : aF 1149 zM333.2.2.2.2.2.2.2 = some (1149, .iconst 3, 1, 0, 0) := by decide +kernel
theorem f333_1150 : aF 1150 zM333.2.2.2.2.2.2.2 = some (1150, .iadd, 1, 0, 0) := by decide +kernel
theorem f333_1151 : aF 1151 zM333.2.2.2.2.2.2.2 = some (1151, .iaload, 1, 0, 0) := by decide +kernel
theorem f333_1152 : aF 1152 zM333.2.2.2.2.2.2.2 = some (1152, .invokevirtual 122, 3, 266, 0) := by decide +kernel
theorem f333_1155 : aF 1155 zM333.2.2.2.2.2.2.2 = some (1155, .if_icmp .eq 921, 3, 2076, 0) := by decide +kernel
theorem f333_1160 : aF 1160 zM333.2.2.2.2.2.2.2 = some (1160, .aload_n 1, 1, 0, 0) := by decide +kernel
theorem f333_1161 : aF 1161 zM333.2.2.2.2.2.2.2 = some (1161, .aload_n 0, 1, 0, 0) := by decide +kernel
theorem f333_1162 : aF 1162 zM333.2.2.2.2.2.2.2 = some (1162, .iload_n 3, 1, 0, 0) := by decide +kernel
theorem f333_1163 : aF 1163 zM333.2.2.2.2.2.2.2 = some (1163, .iconst 1, 1, 0, 0) := by decide +kernel
theorem f333_1164 : aF 1164 zM333.2.2.2.2.2.2.2 = some (1164, .iadd, 1, 0, 0) := by decide +kernel
theorem f333_1165 : aF 1165 zM333.2.2.2.2.2.2.2 = some (1165, .iaload, 1, 0, 0) := by decide +kernel
theorem f333_1166 : aF 1166 zM333.2.2.2.2.2.2.2 = some (1166, .aload_n 0, 1, 0, 0) := by decide +kernel
theorem f333_1167 : aF 1167 zM333.2.2.2.2.2.2.2 = some (1167, .iload_n 3, 1, 0, 0) := by decide +kernel
theorem f333_1168 : aF 1168 zM333.2.2.2.2.2.2.2 = some (1168, .iconst 2, 1, 0, 0) := by decide +kernel
theorem f333_1169 : aF 1169 zM333.2.2.2.2.2.2.2 = some (1169, .iadd, 1, 0, 0) := by decide +kernel
theorem f333_1170 : aF 1170 zM333.2.2.2.2.2.2.2 = some (1170, .iaload, 1, 0, 0) := by decide +kernel
theorem f333_1171 : aF 1171 zM333.2.2.2.2.2.2.2 = some (1171, .aload_n 0, 1, 0, 0) := by decide +kernel
theorem f333_1172 : aF 1172 zM333.2.2.2.2.2.2.2 = some (1172, .iload_n 3, 1, 0, 0) := by decide +kernel
theorem f333_1173 : aF 1173 zM333.2.2.2.2.2.2.2 = some (1173, .iconst 3, 1, 0, 0) := by decide +kernel
theorem f333_1174 : aF 1174 zM333.2.2.2.2.2.2.2 = some (1174, .iadd, 1, 0, 0) := by decide +kernel
theorem f333_1175 : aF 1175 zM333.2.2.2.2.2.2.2 = some (1175, .iaload, 1, 0, 0) := by decide +kernel
theorem f333_1176 : aF 1176 zM333.2.2.2.2.2.2.2 = some (1176, .aload_n 0, 1, 0, 0) := by decide +kernel
theorem f333_1177 : aF 1177 zM333.2.2.2.2.2.2.2 = some (1177, .iload_n 3, 1, 0, 0) := by decide +kernel
theorem f333_1178 : aF 1178 zM333.2.2.2.2.2.2.2 = some (1178, .iconst 4, 1, 0, 0) := by decide +kernel
theorem f333_1179 : aF 1179 zM333.2.2.2.2.2.2.2 = some (1179, .iadd, 1, 0, 0) := by decide +kernel
theorem f333_1180 : aF 1180 zM333.2.2.2.2.2.2.2 = some (1180, .iaload, 1, 0, 0) := by decide +kernel
theorem f333_1181 : aF 1181 zM333.2.2.2.2.2.2.2 = some (1181, .invokevirtual 123, 3, 170, 0) := by decide +kernel
theorem f333_1184 : aF 1184 zM333.2.2.2.2.2.2.2 = some (1184, .aload_n 2, 1, 0, 0) := by decide +kernel
theorem f333_1185 : aF 1185 zM333.2.2.2.2.2.2.2 = some (1185, .aload_n 0, 1, 0, 0) := by decide +kernel
theorem f333_1186 : aF 1186 zM333.2.2.2.2.2.2.2 = some (1186, .iload_n 3, 1, 0, 0) := by decide +kernel
theorem f333_1187 : aF 1187 zM333.2.2.2.2.2.2.2 = some (1187, .iconst 1, 1, 0, 0) := by decide +kernel
theorem f333_1188 : aF 1188 zM333.2.2.2.2.2.2.2 = some (1188, .iadd, 1, 0, 0) := by decide +kernel
theorem f333_1189 : aF 1189 zM333.2.2.2.2.2.2.2 = some (1189, .iaload, 1, 0, 0) := by decide +kernel
theorem f333_1190 : aF 1190 zM333.2.2.2.2.2.2.2 = some (1190, .aload_n 0, 1, 0, 0) := by decide +kernel
theorem f333_1191 : aF 1191 zM333.2.2.2.2.2.2.2 = some (1191, .iload_n 3, 1, 0, 0) := by decide +kernel
theorem f333_1192 : aF 1192 zM333.2.2.2.2.2.2.2 = some (1192, .iconst 2, 1, 0, 0) := by decide +kernel
theorem f333_1193 : aF 1193 zM333.2.2.2.2.2.2.2 = some (1193, .iadd, 1, 0, 0) := by decide +kernel
theorem f333_1194 : aF 1194 zM333.2.2.2.2.2.2.2 = some (1194, .iaload, 1, 0, 0) := by decide +kernel
theorem f333_1195 : aF 1195 zM333.2.2.2.2.2.2.2 = some (1195, .aload_n 0, 1, 0, 0) := by decide +kernel
theorem f333_1196 : aF 1196 zM333.2.2.2.2.2.2.2 = some (1196, .iload_n 3, 1, 0, 0) := by decide +kernel
theorem f333_1197 : aF 1197 zM333.2.2.2.2.2.2.2 = some (1197, .iconst 3, 1, 0, 0) := by decide +kernel
theorem f333_1198 : aF 1198 zM333.2.2.2.2.2.2.2 = some (1198, .iadd, 1, 0, 0) := by decide +kernel
theorem f333_1199 : aF 1199 zM333.2.2.2.2.2.2.2 = some (1199, .iaload, 1, 0, 0) := by decide +kernel
theorem f333_1200 : aF 1200 zM333.2.2.2.2.2.2.2 = some (1200, .aload_n 0, 1, 0, 0) := by decide +kernel
theorem f333_1201 : aF 1201 zM333.2.2.2.2.2.2.2 = some (1201, .iload_n 3, 1, 0, 0) := by decide +kernel
theorem f333_1202 : aF 1202 zM333.2.2.2.2.2.2.2 = some (1202, .iconst 4, 1, 0, 0) := by decide +kernel
theorem f333_1203 : aF 1203 zM333.2.2.2.2.2.2.2 = some (1203, .iadd, 1, 0, 0) := by decide +kernel
theorem f333_1204 : aF 1204 zM333.2.2.2.2.2.2.2 = some (1204, .iaload, 1, 0, 0) := by decide +kernel
theorem f333_1205 : aF 1205 zM333.2.2.2.2.2.2.2 = some (1205, .invokevirtual 126, 3, 274, 0) := by decide +kernel
theorem f333_1208 : aF 1208 zM333.2.2.2.2.2.2.2 = some (1208, .if_icmp .eq 868, 3, 2076, 0) := by decide +kernel
theorem f333_1213 : aF 1213 zM333.2.2.2.2.2.2.2 = some (1213, .aload_n 1, 1, 0, 0) := by decide +kernel
theorem f333_1214 : aF 1214 zM333.2.2.2.2.2.2.2 = some (1214, .aload_n 0, 1, 0, 0) := by decide +kernel
theorem f333_1215 : aF 1215 zM333.2.2.2.2.2.2.2 = some (1215, .iload_n 3, 1, 0, 0) := by decide +kernel
theorem f333_1216 : aF 1216 zM333.2.2.2.2.2.2.2 = some (1216, .iconst 1, 1, 0, 0) := by decide +kernel
theorem f333_1217 : aF 1217 zM333.2.2.2.2.2.2.2 = some (1217, .iadd, 1, 0, 0) := by decide +kernel
theorem f333_1218 : aF 1218 zM333.2.2.2.2.2.2.2 = some (1218, .iaload, 1, 0, 0) := by decide +kernel
theorem f333_1219 : aF 1219 zM333.2.2.2.2.2.2.2 = some (1219, .aload_n 0, 1, 0, 0) := by decide +kernel
theorem f333_1220 : aF 1220 zM333.2.2.2.2.2.2.2 = some (1220, .iload_n 3, 1, 0, 0) := by decide +kernel
theorem f333_1221 : aF 1221 zM333.2.2.2.2.2.2.2 = some (1221, .iconst 2, 1, 0, 0) := by decide +kernel
theorem f333_1222 : aF 1222 zM333.2.2.2.2.2.2.2 = some (1222, .iadd, 1, 0, 0) := by decide +kernel
theorem f333_1223 : aF 1223 zM333.2.2.2.2.2.2.2 = some (1223, .iaload, 1, 0, 0) := by decide +kernel
theorem f333_1224 : aF 1224 zM333.2.2.2.2.2.2.2 = some (1224, .aload_n 0, 1, 0, 0) := by decide +kernel
theorem f333_1225 : aF 1225 zM333.2.2.2.2.2.2.2 = some (1225, .iload_n 3, 1, 0, 0) := by decide +kernel
theorem f333_1226 : aF 1226 zM333.2.2.2.2.2.2.2 = some (1226, .iconst 3, 1, 0, 0) := by decide +kernel
theorem f333_1227 : aF 1227 zM333.2.2.2.2.2.2.2 = some (1227, .iadd, 1, 0, 0) := by decide +kernel
theorem f333_1228 : aF 1228 zM333.2.2.2.2.2.2.2 = some (1228, .iaload, 1, 0, 0) := by decide +kernel
theorem f333_1229 : aF 1229 zM333.2.2.2.2.2.2.2 = some (1229, .aload_n 0, 1, 0, 0) := by decide +kernel
theorem f333_1230 : aF 1230 zM333.2.2.2.2.2.2.2 = some (1230, .iload_n 3, 1, 0, 0) := by decide +kernel
theorem f333_1231 : aF 1231 zM333.2.2.2.2.2.2.2 = some (1231, .iconst 4, 1, 0, 0) := by decide +kernel
theorem f333_1232 : aF 1232 zM333.2.2.2.2.2.2.2 = some (1232, .iadd, 1, 0, 0) := by decide +kernel
theorem f333_1233 : aF 1233 zM333.2.2.2.2.2.2.2 = some (1233, .iaload, 1, 0, 0) := by decide +kernel
theorem f333_1234 : aF 1234 zM333.2.2.2.2.2.2.2 = some (1234, .invokevirtual 127, 3, 171, 0) := by decide +kernel
theorem f333_1237 : aF 1237 zM333.2.2.2.2.2.2.2 = some (1237, .aload_n 2, 1, 0, 0) := by decide +kernel
theorem f333_1238 : aF 1238 zM333.2.2.2.2.2.2.2 = some (1238, .aload_n 0, 1, 0, 0) := by decide +kernel
theorem f333_1239 : aF 1239 zM333.2.2.2.2.2.2.2 = some (1239, .iload_n 3, 1, 0, 0) := by decide +kernel
theorem f333_1240 : aF 1240 zM333.2.2.2.2.2.2.2 = some (1240, .iconst 1, 1, 0, 0) := by decide +kernel
theorem f333_1241 : aF 1241 zM333.2.2.2.2.2.2.2 = some (1241, .iadd, 1, 0, 0) := by decide +kernel
theorem f333_1242 : aF 1242 zM333.2.2.2.2.2.2.2 = some (1242, .iaload, 1, 0, 0) := by decide +kernel
theorem f333_1243 : aF 1243 zM333.2.2.2.2.2.2.2 = some (1243, .aload_n 0, 1, 0, 0) := by decide +kernel
theorem f333_1244 : aF 1244 zM333.2.2.2.2.2.2.2 = some (1244, .iload_n 3, 1, 0, 0) := by decide +kernel
theorem f333_1245 : aF 1245 zM333.2.2.2.2.2.2.2 = some (1245, .iconst 2, 1, 0, 0) := by decide +kernel
theorem f333_1246 : aF 1246 zM333.2.2.2.2.2.2.2 = some (1246, .iadd, 1, 0, 0) := by decide +kernel
theorem f333_1247 : aF 1247 zM333.2.2.2.2.2.2.2 = some (1247, .iaload, 1, 0, 0) := by decide +kernel
theorem f333_1248 : aF 1248 zM333.2.2.2.2.2.2.2 = some (1248, .aload_n 0, 1, 0, 0) := by decide +kernel
theorem f333_1249 : aF 1249 zM333.2.2.2.2.2.2.2 = some (1249, .iload_n 3, 1, 0, 0) := by decide +kernel
theorem f333_1250 : aF 1250 zM333.2.2.2.2.2.2.2 = some (1250, .iconst 3, 1, 0, 0) := by decide +kernel
theorem f333_1251 : aF 1251 zM333.2.2.2.2.2.2.2 = some (1251, .iadd, 1, 0, 0) := by decide +kernel
theorem f333_1252 : aF 1252 zM333.2.2.2.2.2.2.2 = some (1252, .iaload, 1, 0, 0) := by decide +kernel
theorem f333_1253 : aF 1253 zM333.2.2.2.2.2.2.2 = some (1253, .aload_n 0, 1, 0, 0) := by decide +kernel
theorem f333_1254 : aF 1254 zM333.2.2.2.2.2.2.2 = some (1254, .iload_n 3, 1, 0, 0) := by decide +kernel
theorem f333_1255 : aF 1255 zM333.2.2.2.2.2.2.2 = some (1255, .iconst 4, 1, 0, 0) := by decide +kernel
theorem f333_1256 : aF 1256 zM333.2.2.2.2.2.2.2 = some (1256, .iadd, 1, 0, 0) := by decide +kernel
theorem f333_1257 : aF 1257 zM333.2.2.2.2.2.2.2 = some (1257, .iaload, 1, 0, 0) := by decide +kernel
theorem f333_1258 : aF 1258 zM333.2.2.2.2.2.2.2 = some (1258, .invokevirtual 130, 3, 278, 0) := by decide +kernel
theorem f333_1261 : aF 1261 zM333.2.2.2.2.2.2.2 = some (1261, .if_icmp .eq 815, 3, 2076, 0) := by decide +kernel
theorem f333_1266 : aF 1266 zM333.2.2.2.2.2.2.2 = some (1266, .aload_n 1, 1, 0, 0) := by decide +kernel
theorem f333_1267 : aF 1267 zM333.2.2.2.2.2.2.2 = some (1267, .aload_n 0, 1, 0, 0) := by decide +kernel
theorem f333_1268 : aF 1268 zM333.2.2.2.2.2.2.2 = some (1268, .iload_n 3, 1, 0, 0) := by decide +kernel
theorem f333_1269 : aF 1269 zM333.2.2.2.2.2.2.2 = some (1269, .iconst 1, 1, 0, 0) := by decide +kernel
theorem f333_1270 : aF 1270 zM333.2.2.2.2.2.2.2 = some (1270, .iadd, 1, 0, 0) := by decide +kernel
theorem f333_1271 : aF 1271 zM333.2.2.2.2.2.2.2 = some (1271, .iaload, 1, 0, 0) := by decide +kernel
theorem f333_1272 : aF 1272 zM333.2.2.2.2.2.2.2 = some (1272, .aload_n 0, 1, 0, 0) := by decide +kernel
theorem f333_1273 : aF 1273 zM333.2.2.2.2.2.2.2 = some (1273, .iload_n 3, 1, 0, 0) := by decide +kernel
theorem f333_1274 : aF 1274 zM333.2.2.2.2.2.2.2 = some (1274, .iconst 2, 1, 0, 0) := by decide +kernel
theorem f333_1275 : aF 1275 zM333.2.2.2.2.2.2.2 = some (1275, .iadd, 1, 0, 0) := by decide +kernel
theorem f333_1276 : aF 1276 zM333.2.2.2.2.2.2.2 = some (1276, .iaload, 1, 0, 0) := by decide +kernel
theorem f333_1277 : aF 1277 zM333.2.2.2.2.2.2.2 = some (1277, .invokevirtual 131, 3, 172, 0) := by decide +kernel
theorem f333_1280 : aF 1280 zM333.2.2.2.2.2.2.2 = some (1280, .aload_n 2, 1, 0, 0) := by decide +kernel
theorem f333_1281 : aF 1281 zM333.2.2.2.2.2.2.2 = some (1281, .aload_n 0, 1, 0, 0) := by decide +kernel
theorem f333_1282 : aF 1282 zM333.2.2.2.2.2.2.2 = some (1282, .iload_n 3, 1, 0, 0) := by decide +kernel
theorem f333_1283 : aF 1283 zM333.2.2.2.2.2.2.2 = some (1283, .iconst 1, 1, 0, 0) := by decide +kernel
theorem f333_1284 : aF 1284 zM333.2.2.2.2.2.2.2 = some (1284, .iadd, 1, 0, 0) := by decide +kernel
theorem f333_1285 : aF 1285 zM333.2.2.2.2.2.2.2 = some (1285, .iaload, 1, 0, 0) := by decide +kernel
theorem f333_1286 : aF 1286 zM333.2.2.2.2.2.2.2 = some (1286, .aload_n 0, 1, 0, 0) := by decide +kernel
theorem f333_1287 : aF 1287 zM333.2.2.2.2.2.2.2 = some (1287, .iload_n 3, 1, 0, 0) := by decide +kernel
theorem f333_1288 : aF 1288 zM333.2.2.2.2.2.2.2 = some (1288, .iconst 2, 1, 0, 0) := by decide +kernel
theorem f333_1289 : aF 1289 zM333.2.2.2.2.2.2.2 = some (1289, .iadd, 1, 0, 0) := by decide +kernel
theorem f333_1290 : aF 1290 zM333.2.2.2.2.2.2.2 = some (1290, .iaload, 1, 0, 0) := by decide +kernel
theorem f333_1291 : aF 1291 zM333.2.2.2.2.2.2.2 = some (1291, .invokevirtual 134, 3, 279, 0) := by decide +kernel
theorem f333_1294 : aF 1294 zM333.2.2.2.2.2.2.2 = some (1294, .if_icmp .eq 782, 3, 2076, 0) := by decide +kernel
theorem f333_1299 : aF 1299 zM333.2.2.2.2.2.2.2 = some (1299, .aload_n 1, 1, 0, 0) := by decide +kernel
theorem f333_1300 : aF 1300 zM333.2.2.2.2.2.2.2 = some (1300, .aload_n 0, 1, 0, 0) := by decide +kernel
theorem f333_1301 : aF 1301 zM333.2.2.2.2.2.2.2 = some (1301, .iload_n 3, 1, 0, 0) := by decide +kernel
theorem f333_1302 : aF 1302 zM333.2.2.2.2.2.2.2 = some (1302, .iconst 1, 1, 0, 0) := by decide +kernel
theorem f333_1303 : aF 1303 zM333.2.2.2.2.2.2.2 = some (1303, .iadd, 1, 0, 0) := by decide +kernel
theorem f333_1304 : aF 1304 zM333.2.2.2.2.2.2.2 = some (1304, .iaload, 1, 0, 0) := by decide +kernel
theorem f333_1305 : aF 1305 zM333.2.2.2.2.2.2.2 = some (1305, .invokevirtual 135, 3, 173, 0) := by decide +kernel
theorem f333_1308 : aF 1308 zM333.2.2.2.2.2.2.2 = some (1308, .aload_n 2, 1, 0, 0) := by decide +kernel
theorem f333_1309 : aF 1309 zM333.2.2.2.2.2.2.2 = some (1309, .aload_n 0, 1, 0, 0) := by decide +kernel
theorem f333_1310 : aF 1310 zM333.2.2.2.2.2.2.2 = some (1310, .iload_n 3, 1, 0, 0) := by decide +kernel
theorem f333_1311 : aF 1311 zM333.2.2.2.2.2.2.2 = some (1311, .iconst 1, 1, 0, 0) := by decide +kernel
theorem f333_1312 : aF 1312 zM333.2.2.2.2.2.2.2 = some (1312, .iadd, 1, 0, 0) := by decide +kernel
theorem f333_1313 : aF 1313 zM333.2.2.2.2.2.2.2 = some (1313, .iaload, 1, 0, 0) := by decide +kernel
theorem f333_1314 : aF 1314 zM333.2.2.2.2.2.2.2 = some (1314, .invokevirtual 138, 3, 280, 0) := by decide +kernel
theorem f333_1317 : aF 1317 zM333.2.2.2.2.2.2.2 = some (1317, .if_icmp .eq 759, 3, 2076, 0) := by decide +kernel
theorem f333_1322 : aF 1322 zM333.2.2.2.2.2.2.2 = some (1322, .aload_n 1, 1, 0, 0) := by decide +kernel
theorem f333_1323 : aF 1323 zM333.2.2.2.2.2.2.2 = some (1323, .aload_n 0, 1, 0, 0) := by decide +kernel
theorem f333_1324 : aF 1324 zM333.2.2.2.2.2.2.2 = some (1324, .iload_n 3, 1, 0, 0) := by decide +kernel
theorem f333_1325 : aF 1325 zM333.2.2.2.2.2.2.2 = some (1325, .iconst 1, 1, 0, 0) := by decide +kernel
theorem f333_1326 : aF 1326 zM333.2.2.2.2.2.2.2 = some (1326, .iadd, 1, 0, 0) := by decide +kernel
theorem f333_1327 : aF 1327 zM333.2.2.2.2.2.2.2 = some (1327, .iaload, 1, 0, 0) := by decide +kernel
theorem f333_1328 : aF 1328 zM333.2.2.2.2.2.2.2 = some (1328, .aload_n 0, 1, 0, 0) := by decide +kernel
theorem f333_1329 : aF 1329 zM333.2.2.2.2.2.2.2 = some (1329, .iload_n 3, 1, 0, 0) := by decide +kernel
theorem f333_1330 : aF 1330 zM333.2.2.2.2.2.2.2 = some (1330, .iconst 2, 1, 0, 0) := by decide +kernel
theorem f333_1331 : aF 1331 zM333.2.2.2.2.2.2.2 = some (1331, .iadd, 1, 0, 0) := by decide +kernel
theorem f333_1332 : aF 1332 zM333.2.2.2.2.2.2.2 = some (1332, .iaload, 1, 0, 0) := by decide +kernel
theorem f333_1333 : aF 1333 zM333.2.2.2.2.2.2.2 = some (1333, .aload_n 0, 1, 0, 0) := by decide +kernel
theorem f333_1334 : aF 1334 zM333.2.2.2.2.2.2.2 = some (1334, .iload_n 3, 1, 0, 0) := by decide +kernel
theorem f333_1335 : aF 1335 zM333.2.2.2.2.2.2.2 = some (1335, .iconst 3, 1, 0, 0) := by decide +kernel
theorem f333_1336 : aF 1336 zM333.2.2.2.2.2.2.2 = some (1336, .iadd, 1, 0, 0) := by decide +kernel
theorem f333_1337 : aF 1337 zM333.2.2.2.2.2.2.2 = some (1337, .iaload, 1, 0, 0) := by decide +kernel
theorem f333_1338 : aF 1338 zM333.2.2.2.2.2.2.2 = some (1338, .invokevirtual 139, 3, 174, 0) := by decide +kernel
theorem f333_1341 : aF 1341 zM333.2.2.2.2.2.2.2 = some (1341, .aload_n 2, 1, 0, 0) := by decide +kernel
theorem f333_1342 : aF 1342 zM333.2.2.2.2.2.2.2 = some (1342, .aload_n 0, 1, 0, 0) := by decide +kernel
theorem f333_1343 : aF 1343 zM333.2.2.2.2.2.2.2 = some (1343, .iload_n 3, 1, 0, 0) := by decide +kernel
theorem f333_1344 : aF 1344 zM333.2.2.2.2.2.2.2 = some (1344, .iconst 1, 1, 0, 0) := by decide +kernel
theorem f333_1345 : aF 1345 zM333.2.2.2.2.2.2.2 = some (1345, .iadd, 1, 0, 0) := by decide +kernel
theorem f333_1346 : aF 1346 zM333.2.2.2.2.2.2.2 = some (1346, .iaload, 1, 0, 0) := by decide +kernel
theorem f333_1347 : aF 1347 zM333.2.2.2.2.2.2.2 = some (1347, .aload_n 0, 1, 0, 0) := by decide +kernel
theorem f333_1348 : aF 1348 zM333.2.2.2.2.2.2.2 = some (1348, .iload_n 3, 1, 0, 0) := by decide +kernel
theorem f333_1349 : aF 1349 zM333.2.2.2.2.2.2.2 = some (1349, .iconst 2, 1, 0, 0) := by decide +kernel
theorem f333_1350 : aF 1350 zM333.2.2.2.2.2.2.2 = some (1350, .iadd, 1, 0, 0) := by decide +kernel
theorem f333_1351 : aF 1351 zM333.2.2.2.2.2.2.2 = some (1351, .iaload, 1, 0, 0) := by decide +kernel
theorem f333_1352 : aF 1352 zM333.2.2.2.2.2.2.2 = some (1352, .aload_n 0, 1, 0, 0) := by decide +kernel
theorem f333_1353 : aF 1353 zM333.2.2.2.2.2.2.2 = some (1353, .iload_n 3, 1, 0, 0) := by decide +kernel
theorem f333_1354 : aF 1354 zM333.2.2.2.2.2.2.2 = some (1354, .iconst 3, 1, 0, 0) := by decide +kernel
theorem f333_1355 : aF 1355 zM333.2.2.2.2.2.2.2 = some (1355, .iadd, 1, 0, 0) := by decide +kernel
theorem f333_1356 : aF 1356 zM333.2.2.2.2.2.2.2 = some (1356, .iaload, 1, 0, 0) := by decide +kernel
theorem f333_1357 : aF 1357 zM333.2.2.2.2.2.2.2 = some (1357, .invokevirtual 142, 3, 281, 0) := by decide +kernel
theorem f333_1360 : aF 1360 zM333.2.2.2.2.2.2.2 = some (1360, .if_icmp .eq 716, 3, 2076, 0) := by decide +kernel
theorem f333_1365 : aF 1365 zM333.2.2.2.2.2.2.2 = some (1365, .aload_n 1, 1, 0, 0) := by decide +kernel
theorem f333_1366 : aF 1366 zM333.2.2.2.2.2.2.2 = some (1366, .aload_n 0, 1, 0, 0) := by decide +kernel
theorem f333_1367 : aF 1367 zM333.2.2.2.2.2.2.2 = some (1367, .iload_n 3, 1, 0, 0) := by decide +kernel
theorem f333_1368 : aF 1368 zM333.2.2.2.2.2.2.2 = some (1368, .iconst 1, 1, 0, 0) := by decide +kernel
theorem f333_1369 : aF 1369 zM333.2.2.2.2.2.2.2 = some (1369, .iadd, 1, 0, 0) := by decide +kernel
theorem f333_1370 : aF 1370 zM333.2.2.2.2.2.2.2 = some (1370, .iaload, 1, 0, 0) := by decide +kernel
theorem f333_1371 : aF 1371 zM333.2.2.2.2.2.2.2 = some (1371, .invokevirtual 143, 3, 175, 0) := by decide +kernel
theorem f333_1374 : aF 1374 zM333.2.2.2.2.2.2.2 = some (1374, .aload_n 2, 1, 0, 0) := by decide +kernel
theorem f333_1375 : aF 1375 zM333.2.2.2.2.2.2.2 = some (1375, .aload_n 0, 1, 0, 0) := by decide +kernel
theorem f333_1376 : aF 1376 zM333.2.2.2.2.2.2.2 = some (1376, .iload_n 3, 1, 0, 0) := by decide +kernel
theorem f333_1377 : aF 1377 zM333.2.2.2.2.2.2.2 = some (1377, .iconst 1, 1, 0, 0) := by decide +kernel
theorem f333_1378 : aF 1378 zM333.2.2.2.2.2.2.2 = some (1378, .iadd, 1, 0, 0) := by decide +kernel
theorem f333_1379 : aF 1379 zM333.2.2.2.2.2.2.2 = some (1379, .iaload, 1, 0, 0) := by decide +kernel
theorem f333_1380 : aF 1380 zM333.2.2.2.2.2.2.2 = some (1380, .invokevirtual 146, 3, 288, 0) := by decide +kernel
theorem f333_1383 : aF 1383 zM333.2.2.2.2.2.2.2 = some (1383, .if_icmp .eq 693, 3, 2076, 0) := by decide +kernel
theorem f333_1388 : aF 1388 zM333.2.2.2.2.2.2.2 = some (1388, .aload_n 1, 1, 0, 0) := by decide +kernel
theorem f333_1389 : aF 1389 zM333.2.2.2.2.2.2.2 = some (1389, .aload_n 0, 1, 0, 0) := by decide +kernel
theorem f333_1390 : aF 1390 zM333.2.2.2.2.2.2.2 = some (1390, .iload_n 3, 1, 0, 0) := by decide +kernel
theorem f333_1391 : aF 1391 zM333.2.2.2.2.2.2.2 = some (1391, .iconst 1, 1, 0, 0) := by decide +kernel
theorem f333_1392 : aF 1392 zM333.2.2.2.2.2.2.2 = some (1392, .iadd, 1, 0, 0) := by decide +kernel
theorem f333_1393 : aF 1393 zM333.2.2.2.2.2.2.2 = some (1393, .iaload, 1, 0, 0) := by decide +kernel
theorem f333_1394 : aF 1394 zM333.2.2.2.2.2.2.2 = some (1394, .invokevirtual 147, 3, 176, 0) := by decide +kernel
theorem f333_1397 : aF 1397 zM333.2.2.2.2.2.2.2 = some (1397, .aload_n 2, 1, 0, 0) := by decide +kernel
theorem f333_1398 : aF 1398 zM333.2.2.2.2.2.2.2 = some (1398, .aload_n 0, 1, 0, 0) := by decide +kernel
theorem f333_1399 : aF 1399 zM333.2.2.2.2.2.2.2 = some (1399, .iload_n 3, 1, 0, 0) := by decide +kernel
theorem f333_1400 : aF 1400 zM333.2.2.2.2.2.2.2 = some (1400, .iconst 1, 1, 0, 0) := by decide +kernel
theorem f333_1401 : aF 1401 zM333.2.2.2.2.2.2.2 = some (1401, .iadd, 1, 0, 0) := by decide +kernel
theorem f333_1402 : aF 1402 zM333.2.2.2.2.2.2.2 = some (1402, .iaload, 1, 0, 0) := by decide +kernel
theorem f333_1403 : aF 1403 zM333.2.2.2.2.2.2.2 = some (1403, .invokevirtual 150, 3, 289, 0) := by decide +kernel
theorem f333_1406 : aF 1406 zM333.2.2.2.2.2.2.2 = some (1406, .if_icmp .eq 670, 3, 2076, 0) := by decide +kernel
theorem f333_1411 : aF 1411 zM333.2.2.2.2.2.2.2 = some (1411, .aload_n 1, 1, 0, 0) := by decide +kernel
theorem f333_1412 : aF 1412 zM333.2.2.2.2.2.2.2 = some (1412, .aload_n 0, 1, 0, 0) := by decide +kernel
theorem f333_1413 : aF 1413 zM333.2.2.2.2.2.2.2 = some (1413, .iload_n 3, 1, 0, 0) := by decide +kernel
theorem f333_1414 : aF 1414 zM333.2.2.2.2.2.2.2 = some (1414, .iconst 1, 1, 0, 0) := by decide +kernel
theorem f333_1415 : aF 1415 zM333.2.2.2.2.2.2.2 = some (1415, .iadd, 1, 0, 0) := by decide +kernel
theorem f333_1416 : aF 1416 zM333.2.2.2.2.2.2.2 = some (1416, .iaload, 1, 0, 0) := by decide +kernel
theorem f333_1417 : aF 1417 zM333.2.2.2.2.2.2.2 = some (1417, .invokevirtual 151, 3, 177, 0) := by decide +kernel
theorem f333_1420 : aF 1420 zM333.2.2.2.2.2.2.2 = some (1420, .aload_n 2, 1, 0, 0) := by decide +kernel
theorem f333_1421 : aF 1421 zM333.2.2.2.2.2.2.2 = some (1421, .aload_n 0, 1, 0, 0) := by decide +kernel
theorem f333_1422 : aF 1422 zM333.2.2.2.2.2.2.2 = some (1422, .iload_n 3, 1, 0, 0) := by decide +kernel
theorem f333_1423 : aF 1423 zM333.2.2.2.2.2.2.2 = some (1423, .iconst 1, 1, 0, 0) := by decide +kernel
theorem f333_1424 : aF 1424 zM333.2.2.2.2.2.2.2 = some (1424, .iadd, 1, 0, 0) := by decide +kernel
theorem f333_1425 : aF 1425 zM333.2.2.2.2.2.2.2 = some (1425, .iaload, 1, 0, 0) := by decide +kernel
theorem f333_1426 : aF 1426 zM333.2.2.2.2.2.2.2 = some (1426, .invokevirtual 154, 3, 290, 0) := by decide +kernel
theorem f333_1429 : aF 1429 zM333.2.2.2.2.2.2.2 = some (1429, .if_icmp .eq 647, 3, 2076, 0) := by decide +kernel
theorem f333_1434 : aF 1434 zM333.2.2.2.2.2.2.2 = some (1434, .aload_n 1, 1, 0, 0) := by decide +kernel
theorem f333_1435 : aF 1435 zM333.2.2.2.2.2.2.2 = some (1435, .aload_n 0, 1, 0, 0) := by decide +kernel
theorem f333_1436 : aF 1436 zM333.2.2.2.2.2.2.2 = some (1436, .iload_n 3, 1, 0, 0) := by decide +kernel
theorem f333_1437 : aF 1437 zM333.2.2.2.2.2.2.2 = some (1437, .iconst 1, 1, 0, 0) := by decide +kernel
theorem f333_1438 : aF 1438 zM333.2.2.2.2.2.2.2 = some (1438, .iadd, 1, 0, 0) := by decide +kernel
theorem f333_1439 : aF 1439 zM333.2.2.2.2.2.2.2 = some (1439, .iaload, 1, 0, 0) := by decide +kernel
theorem f333_1440 : aF 1440 zM333.2.2.2.2.2.2.2 = some (1440, .aload_n 0, 1, 0, 0) := by decide +kernel
theorem f333_1441 : aF 1441 zM333.2.2.2.2.2.2.2 = some (1441, .iload_n 3, 1, 0, 0) := by decide +kernel
theorem f333_1442 : aF 1442 zM333.2.2.2.2.2.2.2 = some (1442, .iconst 2, 1, 0, 0) := by decide +kernel
theorem f333_1443 : aF 1443 zM333.2.2.2.2.2.2.2 = some (1443, .iadd, 1, 0, 0) := by decide +kernel
theorem f333_1444 : aF 1444 zM333.2.2.2.2.2.2.2 = some (1444, .iaload, 1, 0, 0) := by decide +kernel
theorem f333_1445 : aF 1445 zM333.2.2.2.2.2.2.2 = some (1445, .aload_n 0, 1, 0, 0) := by decide +kernel
theorem f333_1446 : aF 1446 zM333.2.2.2.2.2.2.2 = some (1446, .iload_n 3, 1, 0, 0) := by decide +kernel
theorem f333_1447 : aF 1447 zM333.2.2.2.2.2.2.2 = some (1447, .iconst 3, 1, 0, 0) := by decide +kernel
theorem f333_1448 : aF 1448 zM333.2.2.2.2.2.2.2 = some (1448, .iadd, 1, 0, 0) := by decide +kernel
theorem f333_1449 : aF 1449 zM333.2.2.2.2.2.2.2 = some (1449, .iaload, 1, 0, 0) := by decide +kernel
theorem f333_1450 : aF 1450 zM333.2.2.2.2.2.2.2 = some (1450, .invokevirtual 155, 3, 178, 0) := by decide +kernel
theorem f333_1453 : aF 1453 zM333.2.2.2.2.2.2.2 = some (1453, .aload_n 2, 1, 0, 0) := by decide +kernel
theorem f333_1454 : aF 1454 zM333.2.2.2.2.2.2.2 = some (1454, .aload_n 0, 1, 0, 0) := by decide +kernel
theorem f333_1455 : aF 1455 zM333.2.2.2.2.2.2.2 = some (1455, .iload_n 3, 1, 0, 0) := by decide +kernel
theorem f333_1456 : aF 1456 zM333.2.2.2.2.2.2.2 = some (1456, .iconst 1, 1, 0, 0) := by decide +kernel
theorem f333_1457 : aF 1457 zM333.2.2.2.2.2.2.2 = some (1457, .iadd, 1, 0, 0) := by decide +kernel
theorem f333_1458 : aF 1458 zM333.2.2.2.2.2.2.2 = some (1458, .iaload, 1, 0, 0) := by decide +kernel
theorem f333_1459 : aF 1459 zM333.2.2.2.2.2.2.2 = some (1459, .aload_n 0, 1, 0, 0) := by decide +kernel
theorem f333_1460 : aF 1460 zM333.2.2.2.2.2.2.2 = some (1460, .iload_n 3, 1, 0, 0) := by decide +kernel
theorem f333_1461 : aF 1461 zM333.2.2.2.2.2.2.2 = some (1461, .iconst 2, 1, 0, 0) := by decide +kernel
theorem f333_1462 : aF 1462 zM333.2.2.2.2.2.2.2 = some (1462, .iadd, 1, 0, 0) := by decide +kernel
theorem f333_1463 : aF 1463 zM333.2.2.2.2.2.2.2 = some (1463, .iaload, 1, 0, 0) := by decide +kernel
theorem f333_1464 : aF 1464 zM333.2.2.2.2.2.2.2 = some (1464, .aload_n 0, 1, 0, 0) := by decide +kernel
theorem f333_1465 : aF 1465 zM333.2.2.2.2.2.2.2 = some (1465, .iload_n 3, 1, 0, 0) := by decide +kernel
theorem f333_1466 : aF 1466 zM333.2.2.2.2.2.2.2 = some (1466, .iconst 3, 1, 0, 0) := by decide +kernel
theorem f333_1467 : aF 1467 zM333.2.2.2.2.2.2.2 = some (1467, .iadd, 1, 0, 0) := by decide +kernel
theorem f333_1468 : aF 1468 zM333.2.2.2.2.2.2.2 = some (1468, .iaload, 1, 0, 0) := by decide +kernel
theorem f333_1469 : aF 1469 zM333.2.2.2.2.2.2.2 = some (1469, .invokevirtual 158, 3, 292, 0) := by decide +kernel
theorem f333_1472 : aF 1472 zM333.2.2.2.2.2.2.2 = some (1472, .if_icmp .eq 604, 3, 2076, 0) := by decide +kernel
theorem f333_1477 : aF 1477 zM333.2.2.2.2.2.2.2 = some (1477, .aload_n 1, 1, 0, 0) := by decide +kernel
theorem f333_1478 : aF 1478 zM333.2.2.2.2.2.2.2 = some (1478, .aload_n 0, 1, 0, 0) := by decide +kernel
theorem f333_1479 : aF 1479 zM333.2.2.2.2.2.2.2 = some (1479, .iload_n 3, 1, 0, 0) := by decide +kernel
theorem f333_1480 : aF 1480 zM333.2.2.2.2.2.2.2 = some (1480, .iconst 1, 1, 0, 0) := by decide +kernel
theorem f333_1481 : aF 1481 zM333.2.2.2.2.2.2.2 = some (1481, .iadd, 1, 0, 0) := by decide +kernel
theorem f333_1482 : aF 1482 zM333.2.2.2.2.2.2.2 = some (1482, .iaload, 1, 0, 0) := by decide +kernel
theorem f333_1483 : aF 1483 zM333.2.2.2.2.2.2.2 = some (1483, .invokevirtual 159, 3, 179, 0) := by decide +kernel
theorem f333_1486 : aF 1486 zM333.2.2.2.2.2.2.2 = some (1486, .aload_n 2, 1, 0, 0) := by decide +kernel
theorem f333_1487 : aF 1487 zM333.2.2.2.2.2.2.2 = some (1487, .aload_n 0, 1, 0, 0) := by decide +kernel
theorem f333_1488 : aF 1488 zM333.2.2.2.2.2.2.2 = some (1488, .iload_n 3, 1, 0, 0) := by decide +kernel
theorem f333_1489 : aF 1489 zM333.2.2.2.2.2.2.2 = some (1489, .iconst 1, 1, 0, 0) := by decide +kernel
theorem f333_1490 : aF 1490 zM333.2.2.2.2.2.2.2 = some (1490, .iadd, 1, 0, 0) := by decide +kernel
theorem f333_1491 : aF 1491 zM333.2.2.2.2.2.2.2 = some (1491, .iaload, 1, 0, 0) := by decide +kernel
theorem f333_1492 : aF 1492 zM333.2.2.2.2.2.2.2 = some (1492, .invokevirtual 162, 3, 294, 0) := by decide +kernel
theorem f333_1495 : aF 1495 zM333.2.2.2.2.2.2.2 = some (1495, .if_icmp .eq 581, 3, 2076, 0) := by decide +kernel
theorem f333_1500 : aF 1500 zM333.2.2.2.2.2.2.2 = some (1500, .aload_n 1, 1, 0, 0) := by decide +kernel
theorem f333_1501 : aF 1501 zM333.2.2.2.2.2.2.2 = some (1501, .aload_n 0, 1, 0, 0) := by decide +kernel
theorem f333_1502 : aF 1502 zM333.2.2.2.2.2.2.2 = some (1502, .iload_n 3, 1, 0, 0) := by decide +kernel
theorem f333_1503 : aF 1503 zM333.2.2.2.2.2.2.2 = some (1503, .iconst 1, 1, 0, 0) := by decide +kernel
theorem f333_1504 : aF 1504 zM333.2.2.2.2.2.2.2 = some (1504, .iadd, 1, 0, 0) := by decide +kernel
theorem f333_1505 : aF 1505 zM333.2.2.2.2.2.2.2 = some (1505, .iaload, 1, 0, 0) := by decide +kernel
theorem f333_1506 : aF 1506 zM333.2.2.2.2.2.2.2 = some (1506, .aload_n 0, 1, 0, 0) := by decide +kernel
theorem f333_1507 : aF 1507 zM333.2.2.2.2.2.2.2 = some (1507, .iload_n 3, 1, 0, 0) := by decide +kernel
theorem f333_1508 : aF 1508 zM333.2.2.2.2.2.2.2 = some (1508, .iconst 2, 1, 0, 0) := by decide +kernel
theorem f333_1509 : aF 1509 zM333.2.2.2.2.2.2.2 = some (1509, .iadd, 1, 0, 0) := by decide +kernel
theorem f333_1510 : aF 1510 zM333.2.2.2.2.2.2.2 = some (1510, .iaload, 1, 0, 0) := by decide +kernel
theorem f333_1511 : aF 1511 zM333.2.2.2.2.2.2.2 = some (1511, .aload_n 0, 1, 0, 0) := by decide +kernel
theorem f333_1512 : aF 1512 zM333.2.2.2.2.2.2.2 = some (1512, .iload_n 3, 1, 0, 0) := by decide +kernel
theorem f333_1513 : aF 1513 zM333.2.2.2.2.2.2.2 = some (1513, .iconst 3, 1, 0, 0) := by decide +kernel
theorem f333_1514 : aF 1514 zM333.2.2.2.2.2.2.2 = some (1514, .iadd, 1, 0, 0) := by decide +kernel
theorem f333_1515 : aF 1515 zM333.2.2.2.2.2.2.2 = some (1515, .iaload, 1, 0, 0) := by decide +kernel
theorem f333_1516 : aF 1516 zM333.2.2.2.2.2.2.2 = some (1516, .invokevirtual 163, 3, 180, 0) := by decide +kernel
theorem f333_1519 : aF 1519 zM333.2.2.2.2.2.2.2 = some (1519, .aload_n 2, 1, 0, 0) := by decide +kernel
theorem f333_1520 : aF 1520 zM333.2.2.2.2.2.2.2 = some (1520, .aload_n 0, 1, 0, 0) := by decide +kernel
theorem f333_1521 : aF 1521 zM333.2.2.2.2.2.2.2 = some (1521, .iload_n 3, 1, 0, 0) := by decide +kernel
theorem f333_1522 : aF 1522 zM333.2.2.2.2.2.2.2 = some (1522, .iconst 1, 1, 0, 0) := by decide +kernel
theorem f333_1523 : aF 1523 zM333.2.2.2.2.2.2.2 = some (1523, .iadd, 1, 0, 0) := by decide +kernel
theorem f333_1524 : aF 1524 zM333.2.2.2.2.2.2.2 = some (1524, .iaload, 1, 0, 0) := by decide +kernel
theorem f333_1525 : aF 1525 zM333.2.2.2.2.2.2.2 = some (1525, .aload_n 0, 1, 0, 0) := by decide +kernel
theorem f333_1526 : aF 1526 zM333.2.2.2.2.2.2.2 = some (1526, .iload_n 3, 1, 0, 0) := by decide +kernel
theorem f333_1527 : aF 1527 zM333.2.2.2.2.2.2.2 = some (1527, .iconst 2, 1, 0, 0) := by decide +kernel
theorem f333_1528 : aF 1528 zM333.2.2.2.2.2.2.2 = some (1528, .iadd, 1, 0, 0) := by decide +kernel
theorem f333_1529 : aF 1529 zM333.2.2.2.2.2.2.2 = some (1529, .iaload, 1, 0, 0) := by decide +kernel
theorem f333_1530 : aF 1530 zM333.2.2.2.2.2.2.2 = some (1530, .aload_n 0, 1, 0, 0) := by decide +kernel
theorem f333_1531 : aF 1531 zM333.2.2.2.2.2.2.2 = some (1531, .iload_n 3, 1, 0, 0) := by decide +kernel
theorem f333_1532 : aF 1532 zM333.2.2.2.2.2.2.2 = some (1532, .iconst 3, 1, 0, 0) := by decide +kernel
theorem f333_1533 : aF 1533 zM333.2.2.2.2.2.2.2 = some (1533, .iadd, 1, 0, 0) := by decide +kernel
theorem f333_1534 : aF 1534 zM333.2.2.2.2.2.2.2 = some (1534, .iaload, 1, 0, 0) := by decide +kernel
theorem f333_1535 : aF 1535 zM333.2.2.2.2.2.2.2 = some (1535, .invokevirtual 166, 3, 298, 0) := by decide +kernel
theorem f333_1538 : aF 1538 zM333.2.2.2.2.2.2.2 = some (1538, .if_icmp .eq 538, 3, 2076, 0) := by decide +kernel
theorem f333_1543 : aF 1543 zM333.2.2.2.2.2.2.2 = some (1543, .aload_n 1, 1, 0, 0) := by decide +kernel
theorem f333_1544 : aF 1544 zM333.2.2.2.2.2.2.2 = some (1544, .aload_n 0, 1, 0, 0) := by decide +kernel
theorem f333_1545 : aF 1545 zM333.2.2.2.2.2.2.2 = some (1545, .iload_n 3, 1, 0, 0) := by decide +kernel
theorem f333_1546 : aF 1546 zM333.2.2.2.2.2.2.2 = some (1546, .iconst 1, 1, 0, 0) := by decide +kernel
theorem f333_1547 : aF 1547 zM333.2.2.2.2.2.2.2 = some (1547, .iadd, 1, 0, 0) := by decide +kernel
theorem f333_1548 : aF 1548 zM333.2.2.2.2.2.2.2 = some (1548, .iaload, 1, 0, 0) := by decide +kernel
theorem f333_1549 : aF 1549 zM333.2.2.2.2.2.2.2 = some (1549, .invokevirtual 167, 3, 181, 0) := by decide +kernel
theorem f333_1552 : aF 1552 zM333.2.2.2.2.2.2.2 = some (1552, .aload_n 2, 1, 0, 0) := by decide +kernel
theorem f333_1553 : aF 1553 zM333.2.2.2.2.2.2.2 = some (1553, .aload_n 0, 1, 0, 0) := by decide +kernel
theorem f333_1554 : aF 1554 zM333.2.2.2.2.2.2.2 = some (1554, .iload_n 3, 1, 0, 0) := by decide +kernel
theorem f333_1555 : aF 1555 zM333.2.2.2.2.2.2.2 = some (1555, .iconst 1, 1, 0, 0) := by decide +kernel
theorem f333_1556 : aF 1556 zM333.2.2.2.2.2.2.2 = some (1556, .iadd, 1, 0, 0) := by decide +kernel
theorem f333_1557 : aF 1557 zM333.2.2.2.2.2.2.2 = some (1557, .iaload, 1, 0, 0) := by decide +kernel
theorem f333_1558 : aF 1558 zM333.2.2.2.2.2.2.2 = some (1558, .invokevirtual 170, 3, 299, 0) := by decide +kernel
theorem f333_1561 : aF 1561 zM333.2.2.2.2.2.2.2 = some (1561, .if_icmp .eq 515, 3, 2076, 0) := by decide +kernel
theorem f333_1566 : aF 1566 zM333.2.2.2.2.2.2.2 = some (1566, .aload_n 1, 1, 0, 0) := by decide +kernel
theorem f333_1567 : aF 1567 zM333.2.2.2.2.2.2.2 = some (1567, .aload_n 0, 1, 0, 0) := by decide +kernel
theorem f333_1568 : aF 1568 zM333.2.2.2.2.2.2.2 = some (1568, .iload_n 3, 1, 0, 0) := by decide +kernel
theorem f333_1569 : aF 1569 zM333.2.2.2.2.2.2.2 = some (1569, .iconst 1, 1, 0, 0) := by decide +kernel
theorem f333_1570 : aF 1570 zM333.2.2.2.2.2.2.2 = some (1570, .iadd, 1, 0, 0) := by decide +kernel
theorem f333_1571 : aF 1571 zM333.2.2.2.2.2.2.2 = some (1571, .iaload, 1, 0, 0) := by decide +kernel
theorem f333_1572 : aF 1572 zM333.2.2.2.2.2.2.2 = some (1572, .aload_n 0, 1, 0, 0) := by decide +kernel
theorem f333_1573 : aF 1573 zM333.2.2.2.2.2.2.2 = some (1573, .iload_n 3, 1, 0, 0) := by decide +kernel
theorem f333_1574 : aF 1574 zM333.2.2.2.2.2.2.2 = some (1574, .iconst 2, 1, 0, 0) := by decide +kernel
theorem f333_1575 : aF 1575 zM333.2.2.2.2.2.2.2 = some (1575, .iadd, 1, 0, 0) := by decide +kernel
theorem f333_1576 : aF 1576 zM333.2.2.2.2.2.2.2 = some (1576, .iaload, 1, 0, 0) := by decide +kernel
theorem f333_1577 : aF 1577 zM333.2.2.2.2.2.2.2 = some (1577, .invokevirtual 171, 3, 182, 0) := by decide +kernel
theorem f333_1580 : aF 1580 zM333.2.2.2.2.2.2.2 = some (1580, .aload_n 2, 1, 0, 0) := by decide +kernel
theorem f333_1581 : aF 1581 zM333.2.2.2.2.2.2.2 = some (1581, .aload_n 0, 1, 0, 0) := by decide +kernel
theorem f333_1582 : aF 1582 zM333.2.2.2.2.2.2.2 = some (1582, .iload_n 3, 1, 0, 0) := by decide +kernel
theorem f333_1583 : aF 1583 zM333.2.2.2.2.2.2.2 = some (1583, .iconst 1, 1, 0, 0) := by decide +kernel
theorem f333_1584 : aF 1584 zM333.2.2.2.2.2.2.2 = some (1584, .iadd, 1, 0, 0) := by decide +kernel
theorem f333_1585 : aF 1585 zM333.2.2.2.2.2.2.2 = some (1585, .iaload, 1, 0, 0) := by decide +kernel
theorem f333_1586 : aF 1586 zM333.2.2.2.2.2.2.2 = some (1586, .aload_n 0, 1, 0, 0) := by decide +kernel
theorem f333_1587 : aF 1587 zM333.2.2.2.2.2.2.2 = some (1587, .iload_n 3, 1, 0, 0) := by decide +kernel
theorem f333_1588 : aF 1588 zM333.2.2.2.2.2.2.2 = some (1588, .iconst 2, 1, 0, 0) := by decide +kernel
theorem f333_1589 : aF 1589 zM333.2.2.2.2.2.2.2 = some (1589, .iadd, 1, 0, 0) := by decide +kernel
theorem f333_1590 : aF 1590 zM333.2.2.2.2.2.2.2 = some (1590, .iaload, 1, 0, 0) := by decide +kernel
theorem f333_1591 : aF 1591 zM333.2.2.2.2.2.2.2 = some (1591, .invokevirtual 174, 3, 300, 0) := by decide +kernel
theorem f333_1594 : aF 1594 zM333.2.2.2.2.2.2.2 = some (1594, .if_icmp .eq 482, 3, 2076, 0) := by decide +kernel
theorem f333_1599 : aF 1599 zM333.2.2.2.2.2.2.2 = some (1599, .aload_n 1, 1, 0, 0) := by decide +kernel
theorem f333_1600 : aF 1600 zM333.2.2.2.2.2.2.2 = some (1600, .aload_n 0, 1, 0, 0) := by decide +kernel
theorem f333_1601 : aF 1601 zM333.2.2.2.2.2.2.2 = some (1601, .iload_n 3, 1, 0, 0) := by decide +kernel
theorem f333_1602 : aF 1602 zM333.2.2.2.2.2.2.2 = some (1602, .iconst 1, 1, 0, 0) := by decide +kernel
theorem f333_1603 : aF 1603 zM333.2.2.2.2.2.2.2 = some (1603, .iadd, 1, 0, 0) := by decide +kernel
theorem f333_1604 : aF 1604 zM333.2.2.2.2.2.2.2 = some (1604, .iaload, 1, 0, 0) := by decide +kernel
theorem f333_1605 : aF 1605 zM333.2.2.2.2.2.2.2 = some (1605, .aload_n 0, 1, 0, 0) := by decide +kernel
theorem f333_1606 : aF 1606 zM333.2.2.2.2.2.2.2 = some (1606, .iload_n 3, 1, 0, 0) := by decide +kernel
theorem f333_1607 : aF 1607 zM333.2.2.2.2.2.2.2 = some (1607, .iconst 2, 1, 0, 0) := by decide +kernel
theorem f333_1608 : aF 1608 zM333.2.2.2.2.2.2.2 = some (1608, .iadd, 1, 0, 0) := by decide +kernel
theorem f333_1609 : aF 1609 zM333.2.2.2.2.2.2.2 = some (1609, .iaload, 1, 0, 0) := by decide +kernel
theorem f333_1610 : aF 1610 zM333.2.2.2.2.2.2.2 = some (1610, .invokevirtual 175, 3, 183, 0) := by decide +kernel
theorem f333_1613 : aF 1613 zM333.2.2.2.2.2.2.2 = some (1613, .aload_n 2, 1, 0, 0) := by decide +kernel
theorem f333_1614 : aF 1614 zM333.2.2.2.2.2.2.2 = some (1614, .aload_n 0, 1, 0, 0) := by decide +kernel
theorem f333_1615 : aF 1615 zM333.2.2.2.2.2.2.2 = some (1615, .iload_n 3, 1, 0, 0) := by decide +kernel
theorem f333_1616 : aF 1616 zM333.2.2.2.2.2.2.2 = some (1616, .iconst 1, 1, 0, 0) := by decide +kernel
theorem f333_1617 : aF 1617 zM333.2.2.2.2.2.2.2 = some (1617, .iadd, 1, 0, 0) := by decide +kernel
theorem f333_1618 : aF 1618 zM333.2.2.2.2.2.2.2 = some (1618, .iaload, 1, 0, 0) := by decide +kernel
theorem f333_1619 : aF 1619 zM333.2.2.2.2.2.2.2 = some (1619, .aload_n 0, 1, 0, 0) := by decide +kernel
theorem f333_1620 : aF 1620 zM333.2.2.2.2.2.2.2 = some (1620, .iload_n 3, 1, 0, 0) := by decide +kernel
theorem f333_1621 : aF 1621 zM333.2.2.2.2.2.2.2 = some (1621, .iconst 2, 1, 0, 0) := by decide +kernel
theorem f333_1622 : aF 1622 zM333.2.2.2.2.2.2.2 = some (1622, .iadd, 1, 0, 0) := by decide +kernel
theorem f333_1623 : aF 1623 zM333.2.2.2.2.2.2.2 = some (1623, .iaload, 1, 0, 0) := by decide +kernel
theorem f333_1624 : aF 1624 zM333.2.2.2.2.2.2.2 = some (1624, .invokevirtual 178, 3, 302, 0) := by decide +kernel
theorem f333_1627 : aF 1627 zM333.2.2.2.2.2.2.2 = some (1627, .if_icmp .eq 449, 3, 2076, 0) := by decide +kernel
theorem f333_1632 : aF 1632 zM333.2.2.2.2.2.2.2 = some (1632, .aload_n 1, 1, 0, 0) := by decide +kernel
theorem f333_1633 : aF 1633 zM333.2.2.2.2.2.2.2 = some (1633, .aload_n 0, 1, 0, 0) := by decide +kernel
theorem f333_1634 : aF 1634 zM333.2.2.2.2.2.2.2 = some (1634, .iload_n 3, 1, 0, 0) := by decide +kernel
theorem f333_1635 : aF 1635 zM333.2.2.2.2.2.2.2 = some (1635, .iconst 1, 1, 0, 0) := by decide +kernel
theorem f333_1636 : aF 1636 zM333.2.2.2.2.2.2.2 = some (1636, .iadd, 1, 0, 0) := by decide +kernel
theorem f333_1637 : aF 1637 zM333.2.2.2.2.2.2.2 = some (1637, .iaload, 1, 0, 0) := by decide +kernel
theorem f333_1638 : aF 1638 zM333.2.2.2.2.2.2.2 = some (1638, .invokevirtual 179, 3, 184, 0) := by decide +kernel
theorem f333_1641 : aF 1641 zM333.2.2.2.2.2.2.2 = some (1641, .aload_n 2, 1, 0, 0) := by decide +kernel
theorem f333_1642 : aF 1642 zM333.2.2.2.2.2.2.2 = some (1642, .aload_n 0, 1, 0, 0) := by decide +kernel
theorem f333_1643 : aF 1643 zM333.2.2.2.2.2.2.2 = some (1643, .iload_n 3, 1, 0, 0) := by decide +kernel
theorem f333_1644 : aF 1644 zM333.2.2.2.2.2.2.2 = some (1644, .iconst 1, 1, 0, 0) := by decide +kernel
theorem f333_1645 : aF 1645 zM333.2.2.2.2.2.2.2 = some (1645, .iadd, 1, 0, 0) := by decide +kernel
theorem f333_1646 : aF 1646 zM333.2.2.2.2.2.2.2 = some (1646, .iaload, 1, 0, 0) := by decide +kernel
theorem f333_1647 : aF 1647 zM333.2.2.2.2.2.2.2 = some (1647, .invokevirtual 182, 3, 303, 0) := by decide +kernel
theorem f333_1650 : aF 1650 zM333.2.2.2.2.2.2.2 = some (1650, .if_icmp .eq 426, 3, 2076, 0) := by decide +kernel
theorem f333_1655 : aF 1655 zM333.2.2.2.2.2.2.2 = some (1655, .aload_n 1, 1, 0, 0) := by decide +kernel
theorem f333_1656 : aF 1656 zM333.2.2.2.2.2.2.2 = some (1656, .aload_n 0, 1, 0, 0) := by decide +kernel
theorem f333_1657 : aF 1657 zM333.2.2.2.2.2.2.2 = some (1657, .iload_n 3, 1, 0, 0) := by decide +kernel
theorem f333_1658 : aF 1658 zM333.2.2.2.2.2.2.2 = some (1658, .iconst 1, 1, 0, 0) := by decide +kernel
theorem f333_1659 : aF 1659 zM333.2.2.2.2.2.2.2 = some (1659, .iadd, 1, 0, 0) := by decide +kernel
theorem f333_1660 : aF 1660 zM333.2.2.2.2.2.2.2 = some (1660, .iaload, 1, 0, 0) := by decide +kernel
theorem f333_1661 : aF 1661 zM333.2.2.2.2.2.2.2 = some (1661, .aload_n 0, 1, 0, 0) := by decide +kernel
theorem f333_1662 : aF 1662 zM333.2.2.2.2.2.2.2 = some (1662, .iload_n 3, 1, 0, 0) := by decide +kernel
theorem f333_1663 : aF 1663 zM333.2.2.2.2.2.2.2 = some (1663, .iconst 2, 1, 0, 0) := by decide +kernel
theorem f333_1664 : aF 1664 zM333.2.2.2.2.2.2.2 = some (1664, .iadd, 1, 0, 0) := by decide +kernel
theorem f333_1665 : aF 1665 zM333.2.2.2.2.2.2.2 = some (1665, .iaload, 1, 0, 0) := by decide +kernel
theorem f333_1666 : aF 1666 zM333.2.2.2.2.2.2.2 = some (1666, .aload_n 0, 1, 0, 0) := by decide +kernel
theorem f333_1667 : aF 1667 zM333.2.2.2.2.2.2.2 = some (1667, .iload_n 3, 1, 0, 0) := by decide +kernel
theorem f333_1668 : aF 1668 zM333.2.2.2.2.2.2.2 = some (1668, .iconst 3, 1, 0, 0) := by decide +kernel
theorem f333_1669 : aF 1669 zM333.2.2.2.2.2.2.2 = some (1669, .iadd, 1, 0, 0) := by decide +kernel
theorem f333_1670 : aF 1670 zM333.2.2.2.2.2.2.2 = some (1670, .iaload, 1, 0, 0) := by decide +kernel
theorem f333_1671 : aF 1671 zM333.2.2.2.2.2.2.2 = some (1671, .aload_n 0, 1, 0, 0) := by decide +kernel
theorem f333_1672 : aF 1672 zM333.2.2.2.2.2.2.2 = some (1672, .iload_n 3, 1, 0, 0) := by decide +kernel
theorem f333_1673 : aF 1673 zM333.2.2.2.2.2.2.2 = some (1673, .iconst 4, 1, 0, 0) := by decide +kernel
theorem f333_1674 : aF 1674 zM333.2.2.2.2.2.2.2 = some (1674, .iadd, 1, 0, 0) := by decide +kernel
theorem f333_1675 : aF 1675 zM333.2.2.2.2.2.2.2 = some (1675, .iaload, 1, 0, 0) := by decide +kernel
theorem f333_1676 : aF 1676 zM333.2.2.2.2.2.2.2 = some (1676, .invokevirtual 183, 3, 185, 0) := by decide +kernel
theorem f333_1679 : aF 1679 zM333.2.2.2.2.2.2.2 = some (1679, .aload_n 2, 1, 0, 0) := by decide +kernel
theorem f333_1680 : aF 1680 zM333.2.2.2.2.2.2.2 = some (1680, .aload_n 0, 1, 0, 0) := by decide +kernel
theorem f333_1681 : aF 1681 zM333.2.2.2.2.2.2.2 = some (1681, .iload_n 3, 1, 0, 0) := by decide +kernel
theorem f333_1682 : aF 1682 zM333.2.2.2.2.2.2.2 = some (1682, .iconst 1, 1, 0, 0) := by decide +kernel
theorem f333_1683 : aF 1683 zM333.2.2.2.2.2.2.2 = some (1683, .iadd, 1, 0, 0) := by decide +kernel
theorem f333_1684 : aF 1684 zM333.2.2.2.2.2.2.2 = some (1684, .iaload, 1, 0, 0) := by decide +kernel
theorem f333_1685 : aF 1685 zM333.2.2.2.2.2.2.2 = some (1685, .aload_n 0, 1, 0, 0) := by decide +kernel
theorem f333_1686 : aF 1686 zM333.2.2.2.2.2.2.2 = some (1686, .iload_n 3, 1, 0, 0) := by decide +kernel
theorem f333_1687 : aF 1687 zM333.2.2.2.2.2.2.2 = some (1687, .iconst 2, 1, 0, 0) := by decide +kernel
theorem f333_1688 : aF 1688 zM333.2.2.2.2.2.2.2 = some (1688, .iadd, 1, 0, 0) := by decide +kernel
theorem f333_1689 : aF 1689 zM333.2.2.2.2.2.2.2 = some (1689, .iaload, 1, 0, 0) := by decide +kernel
theorem f333_1690 : aF 1690 zM333.2.2.2.2.2.2.2 = some (1690, .aload_n 0, 1, 0, 0) := by decide +kernel
theorem f333_1691 : aF 1691 zM333.2.2.2.2.2.2.2 = some (1691, .iload_n 3, 1, 0, 0) := by decide +kernel
theorem f333_1692 : aF 1692 zM333.2.2.2.2.2.2.2 = some (1692, .iconst 3, 1, 0, 0) := by decide +kernel
theorem f333_1693 : aF 1693 zM333.2.2.2.2.2.2.2 = some (1693, .iadd, 1, 0, 0) := by decide +kernel
theorem f333_1694 : aF 1694 zM333.2.2.2.2.2.2.2 = some (1694, .iaload, 1, 0, 0) := by decide +kernel
theorem f333_1695 : aF 1695 zM333.2.2.2.2.2.2.2 = some (1695, .aload_n 0, 1, 0, 0) := by decide +kernel
theorem f333_1696 : aF 1696 zM333.2.2.2.2.2.2.2 = some (1696, .iload_n 3, 1, 0, 0) := by decide +kernel
theorem f333_1697 : aF 1697 zM333.2.2.2.2.2.2.2 = some (1697, .iconst 4, 1, 0, 0) := by decide +kernel
theorem f333_1698 : aF 1698 zM333.2.2.2.2.2.2.2 = some (1698, .iadd, 1, 0, 0) := by decide +kernel
theorem f333_1699 : aF 1699 zM333.2.2.2.2.2.2.2 = some (1699, .iaload, 1, 0, 0) := by decide +kernel
theorem f333_1700 : aF 1700 zM333.2.2.2.2.2.2.2 = some (1700, .invokevirtual 186, 3, 304, 0) := by decide +kernel
theorem f333_1703 : aF 1703 zM333.2.2.2.2.2.2.2 = some (1703, .if_icmp .eq 373, 3, 2076, 0) := by decide +kernel
theorem f333_1708 : aF 1708 zM333.2.2.2.2.2.2.2 = some (1708, .aload_n 1, 1, 0, 0) := by decide +kernel
theorem f333_1709 : aF 1709 zM333.2.2.2.2.2.2.2 = some (1709, .aload_n 0, 1, 0, 0) := by decide +kernel
theorem f333_1710 : aF 1710 zM333.2.2.2.2.2.2.2 = some (1710, .iload_n 3, 1, 0, 0) := by decide +kernel
theorem f333_1711 : aF 1711 zM333.2.2.2.2.2.2.2 = some (1711, .iconst 1, 1, 0, 0) := by decide +kernel
theorem f333_1712 : aF 1712 zM333.2.2.2.2.2.2.2 = some (1712, .iadd, 1, 0, 0) := by decide +kernel
theorem f333_1713 : aF 1713 zM333.2.2.2.2.2.2.2 = some (1713, .iaload, 1, 0, 0) := by decide +kernel
theorem f333_1714 : aF 1714 zM333.2.2.2.2.2.2.2 = some (1714, .aload_n 0, 1, 0, 0) := by decide +kernel
theorem f333_1715 : aF 1715 zM333.2.2.2.2.2.2.2 = some (1715, .iload_n 3, 1, 0, 0) := by decide +kernel
theorem f333_1716 : aF 1716 zM333.2.2.2.2.2.2.2 = some (1716, .iconst 2, 1, 0, 0) := by decide +kernel
theorem f333_1717 : aF 1717 zM333.2.2.2.2.2.2.2 = some (1717, .iadd, 1, 0, 0) := by decide +kernel
theorem f333_1718 : aF 1718 zM333.2.2.2.2.2.2.2 = some (1718, .iaload, 1, 0, 0) := by decide +kernel
theorem f333_1719 : aF 1719 zM333.2.2.2.2.2.2.2 = some (1719, .aload_n 0, 1, 0, 0) := by decide +kernel
theorem f333_1720 : aF 1720 zM333.2.2.2.2.2.2.2 = some (1720, .iload_n 3, 1, 0, 0) := by decide +kernel
theorem f333_1721 : aF 1721 zM333.2.2.2.2.2.2.2 = some (1721, .iconst 3, 1, 0, 0) := by decide +kernel
theorem f333_1722 : aF 1722 zM333.2.2.2.2.2.2.2 = some (1722, .iadd, 1, 0, 0) := by decide +kernel
theorem f333_1723 : aF 1723 zM333.2.2.2.2.2.2.2 = some (1723, .iaload, 1, 0, 0) := by decide +kernel
theorem f333_1724 : aF 1724 zM333.2.2.2.2.2.2.2 = some (1724, .invokevirtual 187, 3, 186, 0) := by decide +kernel
theorem f333_1727 : aF 1727 zM333.2.2.2.2.2.2.2 = some (1727, .aload_n 2, 1, 0, 0) := by decide +kernel
theorem f333_1728 : aF 1728 zM333.2.2.2.2.2.2.2 = some (1728, .aload_n 0, 1, 0, 0) := by decide +kernel
theorem f333_1729 : aF 1729 zM333.2.2.2.2.2.2.2 = some (1729, .iload_n 3, 1, 0, 0) := by decide +kernel
theorem f333_1730 : aF 1730 zM333.2.2.2.2.2.2.2 = some (1730, .iconst 1, 1, 0, 0) := by decide +kernel
theorem f333_1731 : aF 1731 zM333.2.2.2.2.2.2.2 = some (1731, .iadd, 1, 0, 0) := by decide +kernel
theorem f333_1732 : aF 1732 zM333.2.2.2.2.2.2.2 = some (1732, .iaload, 1, 0, 0) := by decide +kernel
theorem f333_1733 : aF 1733 zM333.2.2.2.2.2.2.2 = some (1733, .aload_n 0, 1, 0, 0) := by decide +kernel
theorem f333_1734 : aF 1734 zM333.2.2.2.2.2.2.2 = some (1734, .iload_n 3, 1, 0, 0) := by decide +kernel
theorem f333_1735 : aF 1735 zM333.2.2.2.2.2.2.2 = some (1735, .iconst 2, 1, 0, 0) := by decide +kernel
theorem f333_1736 : aF 1736 zM333.2.2.2.2.2.2.2 = some (1736, .iadd, 1, 0, 0) := by decide +kernel
theorem f333_1737 : aF 1737 zM333.2.2.2.2.2.2.2 = some (1737, .iaload, 1, 0, 0) := by decide +kernel
theorem f333_1738 : aF 1738 zM333.2.2.2.2.2.2.2 = some (1738, .aload_n 0, 1, 0, 0) := by decide +kernel
theorem f333_1739 : aF 1739 zM333.2.2.2.2.2.2.2 = some (1739, .iload_n 3, 1, 0, 0) := by decide +kernel
theorem f333_1740 : aF 1740 zM333.2.2.2.2.2.2.2 = some (1740, .iconst 3, 1, 0, 0) := by decide +kernel
theorem f333_1741 : aF 1741 zM333.2.2.2.2.2.2.2 = some (1741, .iadd, 1, 0, 0) := by decide +kernel
theorem f333_1742 : aF 1742 zM333.2.2.2.2.2.2.2 = some (1742, .iaload, 1, 0, 0) := by decide +kernel
theorem f333_1743 : aF 1743 zM333.2.2.2.2.2.2.2 = some (1743, .invokevirtual 190, 3, 316, 0) := by decide +kernel
theorem f333_1746 : aF 1746 zM333.2.2.2.2.2.2.2 = some (1746, .if_icmp .eq 330, 3, 2076, 0) := by decide +kernel
theorem f333_1751 : aF 1751 zM333.2.2.2.2.2.2.2 = some (1751, .aload_n 1, 1, 0, 0) := by decide +kernel
theorem f333_1752 : aF 1752 zM333.2.2.2.2.2.2.2 = some (1752, .aload_n 0, 1, 0, 0) := by decide +kernel
theorem f333_1753 : aF 1753 zM333.2.2.2.2.2.2.2 = some (1753, .iload_n 3, 1, 0, 0) := by decide +kernel
theorem f333_1754 : aF 1754 zM333.2.2.2.2.2.2.2 = some (1754, .iconst 1, 1, 0, 0) := by decide +kernel
theorem f333_1755 : aF 1755 zM333.2.2.2.2.2.2.2 = some (1755, .iadd, 1, 0, 0) := by decide +kernel
theorem f333_1756 : aF 1756 zM333.2.2.2.2.2.2.2 = some (1756, .iaload, 1, 0, 0) := by decide +kernel
theorem f333_1757 : aF 1757 zM333.2.2.2.2.2.2.2 = some (1757, .invokevirtual 191, 3, 187, 0) := by decide +kernel
theorem f333_1760 : aF 1760 zM333.2.2.2.2.2.2.2 = some (1760, .aload_n 2, 1, 0, 0) := by decide +kernel
theorem f333_1761 : aF 1761 zM333.2.2.2.2.2.2.2 = some (1761, .aload_n 0, 1, 0, 0) := by decide +kernel
theorem f333_1762 : aF 1762 zM333.2.2.2.2.2.2.2 = some (1762, .iload_n 3, 1, 0, 0) := by decide +kernel
theorem f333_1763 : aF 1763 zM333.2.2.2.2.2.2.2 = some (1763, .iconst 1, 1, 0, 0) := by decide +kernel
theorem f333_1764 : aF 1764 zM333.2.2.2.2.2.2.2 = some (1764, .iadd, 1, 0, 0) := by decide +kernel
theorem f333_1765 : aF 1765 zM333.2.2.2.2.2.2.2 = some (1765, .iaload, 1, 0, 0) := by decide +kernel
theorem f333_1766 : aF 1766 zM333.2.2.2.2.2.2.2 = some (1766, .invokevirtual 194, 3, 317, 0) := by decide +kernel
theorem f333_1769 : aF 1769 zM333.2.2.2.2.2.2.2 = some (1769, .if_icmp .eq 307, 3, 2076, 0) := by decide +kernel
theorem f333_1774 : aF 1774 zM333.2.2.2.2.2.2.2 = some (1774, .aload_n 1, 1, 0, 0) := by decide +kernel
theorem f333_1775 : aF 1775 zM333.2.2.2.2.2.2.2 = some (1775, .aload_n 0, 1, 0, 0) := by decide +kernel
theorem f333_1776 : aF 1776 zM333.2.2.2.2.2.2.2 = some (1776, .iload_n 3, 1, 0, 0) := by decide +kernel
theorem f333_1777 : aF 1777 zM333.2.2.2.2.2.2.2 = some (1777, .iconst 1, 1, 0, 0) := by decide +kernel
theorem f333_1778 : aF 1778 zM333.2.2.2.2.2.2.2 = some (1778, .iadd, 1, 0, 0) := by decide +kernel
theorem f333_1779 : aF 1779 zM333.2.2.2.2.2.2.2 = some (1779, .iaload, 1, 0, 0) := by decide +kernel
theorem f333_1780 : aF 1780 zM333.2.2.2.2.2.2.2 = some (1780, .aload_n 0, 1, 0, 0) := by decide +kernel
theorem f333_1781 : aF 1781 zM333.2.2.2.2.2.2.2 = some (1781, .iload_n 3, 1, 0, 0) := by decide +kernel
theorem f333_1782 : aF 1782 zM333.2.2.2.2.2.2.2 = some (1782, .iconst 2, 1, 0, 0) := by decide +kernel
theorem f333_1783 : aF 1783 zM333.2.2.2.2.2.2.2 = some (1783, .iadd, 1, 0, 0) := by decide +kernel
theorem f333_1784 : aF 1784 zM333.2.2.2.2.2.2.2 = some (1784, .iaload, 1, 0, 0) := by decide +kernel
theorem f333_1785 : aF 1785 zM333.2.2.2.2.2.2.2 = some (1785, .invokevirtual 195, 3, 188, 0) := by decide +kernel
theorem f333_1788 : aF 1788 zM333.2.2.2.2.2.2.2 = some (1788, .aload_n 2, 1, 0, 0) := by decide +kernel
theorem f333_1789 : aF 1789 zM333.2.2.2.2.2.2.2 = some (1789, .aload_n 0, 1, 0, 0) := by decide +kernel
theorem f333_1790 : aF 1790 zM333.2.2.2.2.2.2.2 = some (1790, .iload_n 3, 1, 0, 0) := by decide +kernel
theorem f333_1791 : aF 1791 zM333.2.2.2.2.2.2.2 = some (1791, .iconst 1, 1, 0, 0) := by decide +kernel
theorem f333_1792 : aF 1792 zM333.2.2.2.2.2.2.2 = some (1792, .iadd, 1, 0, 0) := by decide +kernel
theorem f333_1793 : aF 1793 zM333.2.2.2.2.2.2.2 = some (1793, .iaload, 1, 0, 0) := by decide +kernel
theorem f333_1794 : aF 1794 zM333.2.2.2.2.2.2.2 = some (1794, .aload_n 0, 1, 0, 0) := by decide +kernel
theorem f333_1795 : aF 1795 zM333.2.2.2.2.2.2.2 = some (1795, .iload_n 3, 1, 0, 0) := by decide +kernel
theorem f333_1796 : aF 1796 zM333.2.2.2.2.2.2.2 = some (1796, .iconst 2, 1, 0, 0) := by decide +kernel
theorem f333_1797 : aF 1797 zM333.2.2.2.2.2.2.2 = some (1797, .iadd, 1, 0, 0) := by decide +kernel
theorem f333_1798 : aF 1798 zM333.2.2.2.2.2.2.2 = some (1798, .iaload, 1, 0, 0) := by decide +kernel
theorem f333_1799 : aF 1799 zM333.2.2.2.2.2.2.2 = some (1799, .invokevirtual 198, 3, 319, 0) := by decide +kernel
theorem f333_1802 : aF 1802 zM333.2.2.2.2.2.2.2 = some (1802, .if_icmp .eq 274, 3, 2076, 0) := by decide +kernel
theorem f333_1807 : aF 1807 zM333.2.2.2.2.2.2.2 = some (1807, .aload_n 1, 1, 0, 0) := by decide +kernel
theorem f333_1808 : aF 1808 zM333.2.2.2.2.2.2.2 = some (1808, .aload_n 0, 1, 0, 0) := by decide +kernel
theorem f333_1809 : aF 1809 zM333.2.2.2.2.2.2.2 = some (1809, .iload_n 3, 1, 0, 0) := by decide +kernel
theorem f333_1810 : aF 1810 zM333.2.2.2.2.2.2.2 = some (1810, .iconst 1, 1, 0, 0) := by decide +kernel
theorem f333_1811 : aF 1811 zM333.2.2.2.2.2.2.2 = some (1811, .iadd, 1, 0, 0) := by decide +kernel
theorem f333_1812 : aF 1812 zM333.2.2.2.2.2.2.2 = some (1812, .iaload, 1, 0, 0) := by decide +kernel
theorem f333_1813 : aF 1813 zM333.2.2.2.2.2.2.2 = some (1813, .aload_n 0, 1, 0, 0) := by decide +kernel
theorem f333_1814 : aF 1814 zM333.2.2.2.2.2.2.2 = some (1814, .iload_n 3, 1, 0, 0) := by decide +kernel
theorem f333_1815 : aF 1815 zM333.2.2.2.2.2.2.2 = some (1815, .iconst 2, 1, 0, 0) := by decide +kernel
theorem f333_1816 : aF 1816 zM333.2.2.2.2.2.2.2 = some (1816, .iadd, 1, 0, 0) := by decide +kernel
theorem f333_1817 : aF 1817 zM333.2.2.2.2.2.2.2 = some (1817, .iaload, 1, 0, 0) := by decide +kernel
theorem f333_1818 : aF 1818 zM333.2.2.2.2.2.2.2 = some (1818, .aload_n 0, 1, 0, 0) := by decide +kernel
theorem f333_1819 : aF 1819 zM333.2.2.2.2.2.2.2 = some (1819, .iload_n 3, 1, 0, 0) := by decide +kernel
theorem f333_1820 : aF 1820 zM333.2.2.2.2.2.2.2 = some (1820, .iconst 3, 1, 0, 0) := by decide +kernel
theorem f333_1821 : aF 1821 zM333.2.2.2.2.2.2.2 = some (1821, .iadd, 1, 0, 0) := by decide +kernel
theorem f333_1822 : aF 1822 zM333.2.2.2.2.2.2.2 = some (1822, .iaload, 1, 0, 0) := by decide +kernel
theorem f333_1823 : aF 1823 zM333.2.2.2.2.2.2.2 = some (1823, .invokevirtual 199, 3, 189, 0) := by decide +kernel
theorem f333_1826 : aF 1826 zM333.2.2.2.2.2.2.2 = some (1826, .aload_n 2, 1, 0, 0) := by decide +kernel
theorem f333_1827 : aF 1827 zM333.2.2.2.2.2.2.2 = some (1827, .aload_n 0, 1, 0, 0) := by decide +kernel
theorem f333_1828 : aF 1828 zM333.2.2.2.2.2.2.2 = some (1828, .iload_n 3, 1, 0, 0) := by decide +kernel
theorem f333_1829 : aF 1829 zM333.2.2.2.2.2.2.2 = some (1829, .iconst 1, 1, 0, 0) := by decide +kernel
theorem f333_1830 : aF 1830 zM333.2.2.2.2.2.2.2 = some (1830, .iadd, 1, 0, 0) := by decide +kernel
theorem f333_1831 : aF 1831 zM333.2.2.2.2.2.2.2 = some (1831, .iaload, 1, 0, 0) := by decide +kernel
theorem f333_1832 : aF 1832 zM333.2.2.2.2.2.2.2 = some (1832, .aload_n 0, 1, 0, 0) := by decide +kernel
theorem f333_1833 : aF 1833 zM333.2.2.2.2.2.2.2 = some (1833, .iload_n 3, 1, 0, 0) := by decide +kernel
theorem f333_1834 : aF 1834 zM333.2.2.2.2.2.2.2 = some (1834, .iconst 2, 1, 0, 0) := by decide +kernel
theorem f333_1835 : aF 1835 zM333.2.2.2.2.2.2.2 = some (1835, .iadd, 1, 0, 0) := by decide +kernel
theorem f333_1836 : aF 1836 zM333.2.2.2.2.2.2.2 = some (1836, .iaload, 1, 0, 0) := by decide +kernel
theorem f333_1837 : aF 1837 zM333.2.2.2.2.2.2.2 = some (1837, .aload_n 0, 1, 0, 0) := by decide +kernel
theorem f333_1838 : aF 1838 zM333.2.2.2.2.2.2.2 = some (1838, .iload_n 3, 1, 0, 0) := by decide +kernel
theorem f333_1839 : aF 1839 zM333.2.2.2.2.2.2.2 = some (1839, .iconst 3, 1, 0, 0) := by decide +kernel
theorem f333_1840 : aF 1840 zM333.2.2.2.2.2.2.2 = some (1840, .iadd, 1, 0, 0) := by decide +kernel
theorem f333_1841 : aF 1841 zM333.2.2.2.2.2.2.2 = some (1841, .iaload, 1, 0, 0) := by decide +kernel
theorem f333_1842 : aF 1842 zM333.2.2.2.2.2.2.2 = some (1842, .invokevirtual 202, 3, 320, 0) := by decide +kernel
theorem f333_1845 : aF 1845 zM333.2.2.2.2.2.2.2 = some (1845, .if_icmp .eq 231, 3, 2076, 0) := by decide +kernel
theorem f333_1850 : aF 1850 zM333.2.2.2.2.2.2.2 = some (1850, .aload_n 1, 1, 0, 0) := by decide +kernel
theorem f333_1851 : aF 1851 zM333.2.2.2.2.2.2.2 = some (1851, .aload_n 0, 1, 0, 0) := by decide +kernel
theorem f333_1852 : aF 1852 zM333.2.2.2.2.2.2.2 = some (1852, .iload_n 3, 1, 0, 0) := by decide +kernel
theorem f333_1853 : aF 1853 zM333.2.2.2.2.2.2.2 = some (1853, .iconst 1, 1, 0, 0) := by decide +kernel
theorem f333_1854 : aF 1854 zM333.2.2.2.2.2.2.2 = some (1854, .iadd, 1, 0, 0) := by decide +kernel
theorem f333_1855 : aF 1855 zM333.2.2.2.2.2.2.2 = some (1855, .iaload, 1, 0, 0) := by decide +kernel
theorem f333_1856 : aF 1856 zM333.2.2.2.2.2.2.2 = some (1856, .aload_n 0, 1, 0, 0) := by decide +kernel
theorem f333_1857 : aF 1857 zM333.2.2.2.2.2.2.2 = some (1857, .iload_n 3, 1, 0, 0) := by decide +kernel
theorem f333_1858 : aF 1858 zM333.2.2.2.2.2.2.2 = some (1858, .iconst 2, 1, 0, 0) := by decide +kernel
theorem f333_1859 : aF 1859 zM333.2.2.2.2.2.2.2 = some (1859, .iadd, 1, 0, 0) := by decide +kernel
theorem f333_1860 : aF 1860 zM333.2.2.2.2.2.2.2 = some (1860, .iaload, 1, 0, 0) := by decide +kernel
theorem f333_1861 : aF 1861 zM333.2.2.2.2.2.2.2 = some (1861, .aload_n 0, 1, 0, 0) := by decide +kernel
theorem f333_1862 : aF 1862 zM333.2.2.2.2.2.2.2 = some (1862, .iload_n 3, 1, 0, 0) := by decide +kernel
theorem f333_1863 : aF 1863 zM333.2.2.2.2.2.2.2 = some (1863, .iconst 3, 1, 0, 0) := by decide +kernel
theorem f333_1864 : aF 1864 zM333.2.2.2.2.2.2.2 = some (1864, .iadd, 1, 0, 0) := by decide +kernel
theorem f333_1865 : aF 1865 zM333.2.2.2.2.2.2.2 = some (1865, .iaload, 1, 0, 0) := by decide +kernel
theorem f333_1866 : aF 1866 zM333.2.2.2.2.2.2.2 = some (1866, .i2l, 1, 0, 0) := by decide +kernel
theorem f333_1867 : aF 1867 zM333.2.2.2.2.2.2.2 = some (1867, .bipush 32, 2, 0, 0) := by decide +kernel
theorem f333_1869 : aF 1869 zM333.2.2.2.2.2.2.2 = some (1869, .lshl, 1, 0, 0) := by decide +kernel
theorem f333_1870 : aF 1870 zM333.2.2.2.2.2.2.2 = some (1870, .aload_n 0, 1, 0, 0) := by decide +kernel
theorem f333_1871 : aF 1871 zM333.2.2.2.2.2.2.2 = some (1871, .iload_n 3, 1, 0, 0) := by decide +kernel
theorem f333_1872 : aF 1872 zM333.2.2.2.2.2.2.2 = some (1872, .iconst 4, 1, 0, 0) := by decide +kernel
theorem f333_1873 : aF 1873 zM333.2.2.2.2.2.2.2 = some (1873, .iadd, 1, 0, 0) := by decide +kernel
theorem f333_1874 : aF 1874 zM333.2.2.2.2.2.2.2 = some (1874, .iaload, 1, 0, 0) := by decide +kernel
theorem f333_1875 : aF 1875 zM333.2.2.2.2.2.2.2 = some (1875, .i2l, 1, 0, 0) := by decide +kernel
theorem f333_1876 : aF 1876 zM333.2.2.2.2.2.2.2 = some (1876, .ldc2_w 203, 3, 4294967295, 0) := by decide +kernel
theorem f333_1879 : aF 1879 zM333.2.2.2.2.2.2.2 = some (1879, .land, 1, 0, 0) := by decide +kernel
theorem f333_1880 : aF 1880 zM333.2.2.2.2.2.2.2 = some (1880, .lor, 1, 0, 0) := by decide +kernel
theorem f333_1881 : aF 1881 zM333.2.2.2.2.2.2.2 = some (1881, .invokevirtual 205, 3, 190, 0) := by decide +kernel
theorem f333_1884 : aF 1884 zM333.2.2.2.2.2.2.2 = some (1884, .aload_n 2, 1, 0, 0) := by decide +kernel
theorem f333_1885 : aF 1885 zM333.2.2.2.2.2.2.2 = some (1885, .aload_n 0, 1, 0, 0) := by decide +kernel
theorem f333_1886 : aF 1886 zM333.2.2.2.2.2.2.2 = some (1886, .iload_n 3, 1, 0, 0) := by decide +kernel
theorem f333_1887 : aF 1887 zM333.2.2.2.2.2.2.2 = some (1887, .iconst 1, 1, 0, 0) := by decide +kernel
theorem f333_1888 : aF 1888 zM333.2.2.2.2.2.2.2 = some (1888, .iadd, 1, 0, 0) := by decide +kernel
theorem f333_1889 : aF 1889 zM333.2.2.2.2.2.2.2 = some (1889, .iaload, 1, 0, 0) := by decide +kernel
theorem f333_1890 : aF 1890 zM333.2.2.2.2.2.2.2 = some (1890, .aload_n 0, 1, 0, 0) := by decide +kernel
theorem f333_1891 : aF 1891 zM333.2.2.2.2.2.2.2 = some (1891, .iload_n 3, 1, 0, 0) := by decide +kernel
theorem f333_1892 : aF 1892 zM333.2.2.2.2.2.2.2 = some (1892, .iconst 2, 1, 0, 0) := by decide +kernel
theorem f333_1893 : aF 1893 zM333.2.2.2.2.2.2.2 = some (1893, .iadd, 1, 0, 0) := by decide +kernel
theorem f333_1894 : aF 1894 zM333.2.2.2.2.2.2.2 = some (1894, .iaload, 1, 0, 0) := by decide +kernel
theorem f333_1895 : aF 1895 zM333.2.2.2.2.2.2.2 = some (1895, .aload_n 0, 1, 0, 0) := by decide +kernel
theorem f333_1896 : aF 1896 zM333.2.2.2.2.2.2.2 = some (1896, .iload_n 3, 1, 0, 0) := by decide +kernel
theorem f333_1897 : aF 1897 zM333.2.2.2.2.2.2.2 = some (1897, .iconst 3, 1, 0, 0) := by decide +kernel
theorem f333_1898 : aF 1898 zM333.2.2.2.2.2.2.2 = some (1898, .iadd, 1, 0, 0) := by decide +kernel
theorem f333_1899 : aF 1899 zM333.2.2.2.2.2.2.2 = some (1899, .iaload, 1, 0, 0) := by decide +kernel
theorem f333_1900 : aF 1900 zM333.2.2.2.2.2.2.2 = some (1900, .i2l, 1, 0, 0) := by decide +kernel
theorem f333_1901 : aF 1901 zM333.2.2.2.2.2.2.2 = some (1901, .bipush 32, 2, 0, 0) := by decide +kernel
theorem f333_1903 : aF 1903 zM333.2.2.2.2.2.2.2 = some (1903, .lshl, 1, 0, 0) := by decide +kernel
theorem f333_1904 : aF 1904 zM333.2.2.2.2.2.2.2 = some (1904, .aload_n 0, 1, 0, 0) := by decide +kernel
theorem f333_1905 : aF 1905 zM333.2.2.2.2.2.2.2 = some (1905, .iload_n 3, 1, 0, 0) := by decide +kernel
theorem f333_1906 : aF 1906 zM333.2.2.2.2.2.2.2 = some (1906, .iconst 4, 1, 0, 0) := by decide +kernel
theorem f333_1907 : aF 1907 zM333.2.2.2.2.2.2.2 = some (1907, .iadd, 1, 0, 0) := by decide +kernel
theorem f333_1908 : aF 1908 zM333.2.2.2.2.2.2.2 = some (1908, .iaload, 1, 0, 0) := by decide +kernel
theorem f333_1909 : aF 1909 zM333.2.2.2.2.2.2.2 = some (1909, .i2l, 1, 0, 0) := by decide +kernel
theorem f333_1910 : aF 1910 zM333.2.2.2.2.2.2.2 = some (1910, .ldc2_w 203, 3, 4294967295, 0) := by decide +kernel
theorem f333_1913 : aF 1913 zM333.2.2.2.2.2.2.2 = some (1913, .land, 1, 0, 0) := by decide +kernel
theorem f333_1914 : aF 1914 zM333.2.2.2.2.2.2.2 = some (1914, .lor, 1, 0, 0) := by decide +kernel
theorem f333_1915 : aF 1915 zM333.2.2.2.2.2.2.2 = some (1915, .invokevirtual 209, 3, 322, 0) := by decide +kernel
theorem f333_1918 : aF 1918 zM333.2.2.2.2.2.2.2 = some (1918, .if_icmp .eq 158, 3, 2076, 0) := by decide +kernel
theorem f333_1923 : aF 1923 zM333.2.2.2.2.2.2.2 = some (1923, .aload_n 1, 1, 0, 0) := by decide +kernel
theorem f333_1924 : aF 1924 zM333.2.2.2.2.2.2.2 = some (1924, .aload_n 0, 1, 0, 0) := by decide +kernel
theorem f333_1925 : aF 1925 zM333.2.2.2.2.2.2.2 = some (1925, .iload_n 3, 1, 0, 0) := by decide +kernel
theorem f333_1926 : aF 1926 zM333.2.2.2.2.2.2.2 = some (1926, .iconst 1, 1, 0, 0) := by decide +kernel
theorem f333_1927 : aF 1927 zM333.2.2.2.2.2.2.2 = some (1927, .iadd, 1, 0, 0) := by decide +kernel
theorem f333_1928 : aF 1928 zM333.2.2.2.2.2.2.2 = some (1928, .iaload, 1, 0, 0) := by decide +kernel
theorem f333_1929 : aF 1929 zM333.2.2.2.2.2.2.2 = some (1929, .aload_n 0, 1, 0, 0) := by decide +kernel
theorem f333_1930 : aF 1930 zM333.2.2.2.2.2.2.2 = some (1930, .iload_n 3, 1, 0, 0) := by decide +kernel
theorem f333_1931 : aF 1931 zM333.2.2.2.2.2.2.2 = some (1931, .iconst 2, 1, 0, 0) := by decide +kernel
theorem f333_1932 : aF 1932 zM333.2.2.2.2.2.2.2 = some (1932, .iadd, 1, 0, 0) := by decide +kernel
theorem f333_1933 : aF 1933 zM333.2.2.2.2.2.2.2 = some (1933, .iaload, 1, 0, 0) := by decide +kernel
theorem f333_1934 : aF 1934 zM333.2.2.2.2.2.2.2 = some (1934, .invokevirtual 210, 3, 191, 0) := by decide +kernel
theorem f333_1937 : aF 1937 zM333.2.2.2.2.2.2.2 = some (1937, .aload_n 2, 1, 0, 0) := by decide +kernel
theorem f333_1938 : aF 1938 zM333.2.2.2.2.2.2.2 = some (1938, .aload_n 0, 1, 0, 0) := by decide +kernel
theorem f333_1939 : aF 1939 zM333.2.2.2.2.2.2.2 = some (1939, .iload_n 3, 1, 0, 0) := by decide +kernel
theorem f333_1940 : aF 1940 zM333.2.2.2.2.2.2.2 = some (1940, .iconst 1, 1, 0, 0) := by decide +kernel
theorem f333_1941 : aF 1941 zM333.2.2.2.2.2.2.2 = some (1941, .iadd, 1, 0, 0) := by decide +kernel
theorem f333_1942 : aF 1942 zM333.2.2.2.2.2.2.2 = some (1942, .iaload, 1, 0, 0) := by decide +kernel
theorem f333_1943 : aF 1943 zM333.2.2.2.2.2.2.2 = some (1943, .aload_n 0, 1, 0, 0) := by decide +kernel
theorem f333_1944 : aF 1944 zM333.2.2.2.2.2.2.2 = some (1944, .iload_n 3, 1, 0, 0) := by decide +kernel
theorem f333_1945 : aF 1945 zM333.2.2.2.2.2.2.2 = some (1945, .iconst 2, 1, 0, 0) := by decide +kernel
theorem f333_1946 : aF 1946 zM333.2.2.2.2.2.2.2 = some (1946, .iadd, 1, 0, 0) := by decide +kernel
theorem f333_1947 : aF 1947 zM333.2.2.2.2.2.2.2 = some (1947, .iaload, 1, 0, 0) := by decide +kernel
theorem f333_1948 : aF 1948 zM333.2.2.2.2.2.2.2 = some (1948, .invokevirtual 214, 3, 323, 0) := by decide +kernel
theorem f333_1951 : aF 1951 zM333.2.2.2.2.2.2.2 = some (1951, .lcmp, 1, 0, 0) := by decide +kernel
theorem f333_1952 : aF 1952 zM333.2.2.2.2.2.2.2 = some (1952, .ifCond .eq 124, 3, 2076, 0) := by decide +kernel
theorem f333_1957 : aF 1957 zM333.2.2.2.2.2.2.2 = some (1957, .aload_n 1, 1, 0, 0) := by decide +kernel
theorem f333_1958 : aF 1958 zM333.2.2.2.2.2.2.2 = some (1958, .aload_n 0, 1, 0, 0) := by decide +kernel
theorem f333_1959 : aF 1959 zM333.2.2.2.2.2.2.2 = some (1959, .iload_n 3, 1, 0, 0) := by decide +kernel
theorem f333_1960 : aF 1960 zM333.2.2.2.2.2.2.2 = some (1960, .iconst 1, 1, 0, 0) := by decide +kernel
theorem f333_1961 : aF 1961 zM333.2.2.2.2.2.2.2 = some (1961, .iadd, 1, 0, 0) := by decide +kernel
theorem f333_1962 : aF 1962 zM333.2.2.2.2.2.2.2 = some (1962, .iaload, 1, 0, 0) := by decide +kernel
theorem f333_1963 : aF 1963 zM333.2.2.2.2.2.2.2 = some (1963, .aload_n 0, 1, 0, 0) := by decide +kernel
theorem f333_1964 : aF 1964 zM333.2.2.2.2.2.2.2 = some (1964, .iload_n 3, 1, 0, 0) := by decide +kernel
theorem f333_1965 : aF 1965 zM333.2.2.2.2.2.2.2 = some (1965, .iconst 2, 1, 0, 0) := by decide +kernel
theorem f333_1966 : aF 1966 zM333.2.2.2.2.2.2.2 = some (1966, .iadd, 1, 0, 0) := by decide +kernel
theorem f333_1967 : aF 1967 zM333.2.2.2.2.2.2.2 = some (1967, .iaload, 1, 0, 0) := by decide +kernel
theorem f333_1968 : aF 1968 zM333.2.2.2.2.2.2.2 = some (1968, .aload_n 0, 1, 0, 0) := by decide +kernel
theorem f333_1969 : aF 1969 zM333.2.2.2.2.2.2.2 = some (1969, .iload_n 3, 1, 0, 0) := by decide +kernel
theorem f333_1970 : aF 1970 zM333.2.2.2.2.2.2.2 = some (1970, .iconst 3, 1, 0, 0) := by decide +kernel
theorem f333_1971 : aF 1971 zM333.2.2.2.2.2.2.2 = some (1971, .iadd, 1, 0, 0) := by decide +kernel
theorem f333_1972 : aF 1972 zM333.2.2.2.2.2.2.2 = some (1972, .iaload, 1, 0, 0) := by decide +kernel
theorem f333_1973 : aF 1973 zM333.2.2.2.2.2.2.2 = some (1973, .aload_n 0, 1, 0, 0) := by decide +kernel
theorem f333_1974 : aF 1974 zM333.2.2.2.2.2.2.2 = some (1974, .iload_n 3, 1, 0, 0) := by decide +kernel
theorem f333_1975 : aF 1975 zM333.2.2.2.2.2.2.2 = some (1975, .iconst 4, 1, 0, 0) := by decide +kernel
theorem f333_1976 : aF 1976 zM333.2.2.2.2.2.2.2 = some (1976, .iadd, 1, 0, 0) := by decide +kernel
theorem f333_1977 : aF 1977 zM333.2.2.2.2.2.2.2 = some (1977, .iaload, 1, 0, 0) := by decide +kernel
theorem f333_1978 : aF 1978 zM333.2.2.2.2.2.2.2 = some (1978, .aload_n 0, 1, 0, 0) := by decide +kernel
theorem f333_1979 : aF 1979 zM333.2.2.2.2.2.2.2 = some (1979, .iload_n 3, 1, 0, 0) := by decide +kernel
theorem f333_1980 : aF 1980 zM333.2.2.2.2.2.2.2 = some (1980, .iconst 5, 1, 0, 0) := by decide +kernel
theorem f333_1981 : aF 1981 zM333.2.2.2.2.2.2.2 = some (1981, .iadd, 1, 0, 0) := by decide +kernel
theorem f333_1982 : aF 1982 zM333.2.2.2.2.2.2.2 = some (1982, .iaload, 1, 0, 0) := by decide +kernel
theorem f333_1983 : aF 1983 zM333.2.2.2.2.2.2.2 = some (1983, .invokevirtual 215, 3, 192, 0) := by decide +kernel
theorem f333_1986 : aF 1986 zM333.2.2.2.2.2.2.2 = some (1986, .aload_n 2, 1, 0, 0) := by decide +kernel
theorem f333_1987 : aF 1987 zM333.2.2.2.2.2.2.2 = some (1987, .aload_n 0, 1, 0, 0) := by decide +kernel
theorem f333_1988 : aF 1988 zM333.2.2.2.2.2.2.2 = some (1988, .iload_n 3, 1, 0, 0) := by decide +kernel
theorem f333_1989 : aF 1989 zM333.2.2.2.2.2.2.2 = some (1989, .iconst 1, 1, 0, 0) := by decide +kernel
theorem f333_1990 : aF 1990 zM333.2.2.2.2.2.2.2 = some (1990, .iadd, 1, 0, 0) := by decide +kernel
theorem f333_1991 : aF 1991 zM333.2.2.2.2.2.2.2 = some (1991, .iaload, 1, 0, 0) := by decide +kernel
theorem f333_1992 : aF 1992 zM333.2.2.2.2.2.2.2 = some (1992, .aload_n 0, 1, 0, 0) := by decide +kernel
theorem f333_1993 : aF 1993 zM333.2.2.2.2.2.2.2 = some (1993, .iload_n 3, 1, 0, 0) := by decide +kernel
theorem f333_1994 : aF 1994 zM333.2.2.2.2.2.2.2 = some (1994, .iconst 2, 1, 0, 0) := by decide +kernel
theorem f333_1995 : aF 1995 zM333.2.2.2.2.2.2.2 = some (1995, .iadd, 1, 0, 0) := by decide +kernel
theorem f333_1996 : aF 1996 zM333.2.2.2.2.2.2.2 = some (1996, .iaload, 1, 0, 0) := by decide +kernel
theorem f333_1997 : aF 1997 zM333.2.2.2.2.2.2.2 = some (1997, .aload_n 0, 1, 0, 0) := by decide +kernel
theorem f333_1998 : aF 1998 zM333.2.2.2.2.2.2.2 = some (1998, .iload_n 3, 1, 0, 0) := by decide +kernel
theorem f333_1999 : aF 1999 zM333.2.2.2.2.2.2.2 = some (1999, .iconst 3, 1, 0, 0) := by decide +kernel
theorem f333_2000 : aF 2000 zM333.2.2.2.2.2.2.2 = some (2000, .iadd, 1, 0, 0) := by decide +kernel
theorem f333_2001 : aF 2001 zM333.2.2.2.2.2.2.2 = some (2001, .iaload, 1, 0, 0) := by decide +kernel
theorem f333_2002 : aF 2002 zM333.2.2.2.2.2.2.2 = some (2002, .aload_n 0, 1, 0, 0) := by decide +kernel
theorem f333_2003 : aF 2003 zM333.2.2.2.2.2.2.2 = some (2003, .iload_n 3, 1, 0, 0) := by decide +kernel
theorem f333_2004 : aF 2004 zM333.2.2.2.2.2.2.2 = some (2004, .iconst 4, 1, 0, 0) := by decide +kernel
theorem f333_2005 : aF 2005 zM333.2.2.2.2.2.2.2 = some (2005, .iadd, 1, 0, 0) := by decide +kernel
theorem f333_2006 : aF 2006 zM333.2.2.2.2.2.2.2 = some (2006, .iaload, 1, 0, 0) := by decide +kernel
theorem f333_2007 : aF 2007 zM333.2.2.2.2.2.2.2 = some (2007, .aload_n 0, 1, 0, 0) := by decide +kernel
theorem f333_2008 : aF 2008 zM333.2.2.2.2.2.2.2 = some (2008, .iload_n 3, 1, 0, 0) := by decide +kernel
theorem f333_2009 : aF 2009 zM333.2.2.2.2.2.2.2 = some (2009, .iconst 5, 1, 0, 0) := by decide +kernel
theorem f333_2010 : aF 2010 zM333.2.2.2.2.2.2.2 = some (2010, .iadd, 1, 0, 0) := by decide +kernel
theorem f333_2011 : aF 2011 zM333.2.2.2.2.2.2.2 = some (2011, .iaload, 1, 0, 0) := by decide +kernel
theorem f333_2012 : aF 2012 zM333.2.2.2.2.2.2.2 = some (2012, .invokevirtual 218, 3, 324, 0) := by decide +kernel
theorem f333_2015 : aF 2015 zM333.2.2.2.2.2.2.2 = some (2015, .if_icmp .eq 61, 3, 2076, 0) := by decide +kernel
theorem f333_2020 : aF 2020 zM333.2.2.2.2.2.2.2 = some (2020, .aload_n 1, 1, 0, 0) := by decide +kernel
theorem f333_2021 : aF 2021 zM333.2.2.2.2.2.2.2 = some (2021, .aload_n 0, 1, 0, 0) := by decide +kernel
theorem f333_2022 : aF 2022 zM333.2.2.2.2.2.2.2 = some (2022, .iload_n 3, 1, 0, 0) := by decide +kernel
theorem f333_2023 : aF 2023 zM333.2.2.2.2.2.2.2 = some (2023, .iconst 1, 1, 0, 0) := by decide +kernel
theorem f333_2024 : aF 2024 zM333.2.2.2.2.2.2.2 = some (2024, .iadd, 1, 0, 0) := by decide +kernel
theorem f333_2025 : aF 2025 zM333.2.2.2.2.2.2.2 = some (2025, .iaload, 1, 0, 0) := by decide +kernel
theorem f333_2026 : aF 2026 zM333.2.2.2.2.2.2.2 = some (2026, .aload_n 0, 1, 0, 0) := by decide +kernel
theorem f333_2027 : aF 2027 zM333.2.2.2.2.2.2.2 = some (2027, .iload_n 3, 1, 0, 0) := by decide +kernel
theorem f333_2028 : aF 2028 zM333.2.2.2.2.2.2.2 = some (2028, .iconst 2, 1, 0, 0) := by decide +kernel
theorem f333_2029 : aF 2029 zM333.2.2.2.2.2.2.2 = some (2029, .iadd, 1, 0, 0) := by decide +kernel
theorem f333_2030 : aF 2030 zM333.2.2.2.2.2.2.2 = some (2030, .iaload, 1, 0, 0) := by decide +kernel
theorem f333_2031 : aF 2031 zM333.2.2.2.2.2.2.2 = some (2031, .invokevirtual 219, 3, 193, 0) := by decide +kernel
theorem f333_2034 : aF 2034 zM333.2.2.2.2.2.2.2 = some (2034, .aload_n 2, 1, 0, 0) := by decide +kernel
theorem f333_2035 : aF 2035 zM333.2.2.2.2.2.2.2 = some (2035, .aload_n 0, 1, 0, 0) := by decide +kernel
theorem f333_2036 : aF 2036 zM333.2.2.2.2.2.2.2 = some (2036, .iload_n 3, 1, 0, 0) := by decide +kernel
theorem f333_2037 : aF 2037 zM333.2.2.2.2.2.2.2 = some (2037, .iconst 1, 1, 0, 0) := by decide +kernel
theorem f333_2038 : aF 2038 zM333.2.2.2.2.2.2.2 = some (2038, .iadd, 1, 0, 0) := by decide +kernel
theorem f333_2039 : aF 2039 zM333.2.2.2.2.2.2.2 = some (2039, .iaload, 1, 0, 0) := by decide +kernel
theorem f333_2040 : aF 2040 zM333.2.2.2.2.2.2.2 = some (2040, .aload_n 0, 1, 0, 0) := by decide +kernel
theorem f333_2041 : aF 2041 zM333.2.2.2.2.2.2.2 = some (2041, .iload_n 3, 1, 0, 0) := by decide +kernel
theorem f333_2042 : aF 2042 zM333.2.2.2.2.2.2.2 = some (2042, .iconst 2, 1, 0, 0) := by decide +kernel
theorem f333_2043 : aF 2043 zM333.2.2.2.2.2.2.2 = some (2043, .iadd, 1, 0, 0) := by decide +kernel
theorem f333_2044 : aF 2044 zM333.2.2.2.2.2.2.2 = some (2044, .iaload, 1, 0, 0) := by decide +kernel
theorem f333_2045 : aF 2045 zM333.2.2.2.2.2.2.2 = some (2045, .invokevirtual 222, 3, 325, 0) := by decide +kernel
theorem f333_2048 : aF 2048 zM333.2.2.2.2.2.2.2 = some (2048, .if_icmp .eq 28, 3, 2076, 0) := by decide +kernel
theorem f333_2053 : aF 2053 zM333.2.2.2.2.2.2.2 = some (2053, .aload_n 1, 1, 0, 0) := by decide +kernel
theorem f333_2054 : aF 2054 zM333.2.2.2.2.2.2.2 = some (2054, .aload_n 0, 1, 0, 0) := by decide +kernel
theorem f333_2055 : aF 2055 zM333.2.2.2.2.2.2.2 = some (2055, .iload_n 3, 1, 0, 0) := by decide +kernel
theorem f333_2056 : aF 2056 zM333.2.2.2.2.2.2.2 = some (2056, .iconst 1, 1, 0, 0) := by decide +kernel
theorem f333_2057 : aF 2057 zM333.2.2.2.2.2.2.2 = some (2057, .iadd, 1, 0, 0) := by decide +kernel
theorem f333_2058 : aF 2058 zM333.2.2.2.2.2.2.2 = some (2058, .iaload, 1, 0, 0) := by decide +kernel
theorem f333_2059 : aF 2059 zM333.2.2.2.2.2.2.2 = some (2059, .invokevirtual 223, 3, 194, 0) := by decide +kernel
theorem f333_2062 : aF 2062 zM333.2.2.2.2.2.2.2 = some (2062, .aload_n 2, 1, 0, 0) := by decide +kernel
theorem f333_2063 : aF 2063 zM333.2.2.2.2.2.2.2 = some (2063, .aload_n 0, 1, 0, 0) := by decide +kernel
theorem f333_2064 : aF 2064 zM333.2.2.2.2.2.2.2 = some (2064, .iload_n 3, 1, 0, 0) := by decide +kernel
theorem f333_2065 : aF 2065 zM333.2.2.2.2.2.2.2 = some (2065, .iconst 1, 1, 0, 0) := by decide +kernel
theorem f333_2066 : aF 2066 zM333.2.2.2.2.2.2.2 = some (2066, .iadd, 1, 0, 0) := by decide +kernel
theorem f333_2067 : aF 2067 zM333.2.2.2.2.2.2.2 = some (2067, .iaload, 1, 0, 0) := by decide +kernel
theorem f333_2068 : aF 2068 zM333.2.2.2.2.2.2.2 = some (2068, .invokevirtual 226, 3, 327, 0) := by decide +kernel
theorem f333_2071 : aF 2071 zM333.2.2.2.2.2.2.2 = some (2071, .if_icmp .eq 5, 3, 2076, 0) := by decide +kernel
theorem f333_2076 : aF 2076 zM333.2.2.2.2.2.2.2 = some (2076, .iinc 3 6, 3, 0, 0) := by decide +kernel
theorem f333_2079 : aF 2079 zM333.2.2.2.2.2.2.2 = some (2079, .goto (-2061), 3, 18, 0) := by decide +kernel
theorem f333_2082 : aF 2082 zM333.2.2.2.2.2.2.2 = some (2082, .iconst 1, 1, 0, 0) := by decide +kernel
theorem f333_2083 : aF 2083 zM333.2.2.2.2.2.2.2 = some (2083, .ireturn, 1, 0, 0) := by decide +kernel
