-- ===== the law: cases 8 to 16 =====
theorem f333_436 : aF 436 zM333.2.2.2.2.2.2.2 = some (436, (.aload_n 1), 1, 0, 0) := by decide +kernel
theorem f333_437 : aF 437 zM333.2.2.2.2.2.2.2 = some (437, (.aload_n 0), 1, 0, 0) := by decide +kernel
theorem f333_438 : aF 438 zM333.2.2.2.2.2.2.2 = some (438, (.iload_n 3), 1, 0, 0) := by decide +kernel
theorem f333_439 : aF 439 zM333.2.2.2.2.2.2.2 = some (439, (.iconst 1), 1, 0, 0) := by decide +kernel
theorem f333_440 : aF 440 zM333.2.2.2.2.2.2.2 = some (440, .iadd, 1, 0, 0) := by decide +kernel
theorem f333_441 : aF 441 zM333.2.2.2.2.2.2.2 = some (441, .iaload, 1, 0, 0) := by decide +kernel
theorem f333_442 : aF 442 zM333.2.2.2.2.2.2.2 = some (442, (.aload_n 0), 1, 0, 0) := by decide +kernel
theorem f333_443 : aF 443 zM333.2.2.2.2.2.2.2 = some (443, (.iload_n 3), 1, 0, 0) := by decide +kernel
theorem f333_444 : aF 444 zM333.2.2.2.2.2.2.2 = some (444, (.iconst 2), 1, 0, 0) := by decide +kernel
theorem f333_445 : aF 445 zM333.2.2.2.2.2.2.2 = some (445, .iadd, 1, 0, 0) := by decide +kernel
theorem f333_446 : aF 446 zM333.2.2.2.2.2.2.2 = some (446, .iaload, 1, 0, 0) := by decide +kernel
theorem f333_447 : aF 447 zM333.2.2.2.2.2.2.2 = some (447, (.invokevirtual 48), 3, 152, 0) := by decide +kernel
theorem f333_450 : aF 450 zM333.2.2.2.2.2.2.2 = some (450, .pop, 1, 0, 0) := by decide +kernel
theorem f333_451 : aF 451 zM333.2.2.2.2.2.2.2 = some (451, (.aload_n 2), 1, 0, 0) := by decide +kernel
theorem f333_452 : aF 452 zM333.2.2.2.2.2.2.2 = some (452, (.aload_n 0), 1, 0, 0) := by decide +kernel
theorem f333_453 : aF 453 zM333.2.2.2.2.2.2.2 = some (453, (.iload_n 3), 1, 0, 0) := by decide +kernel
theorem f333_454 : aF 454 zM333.2.2.2.2.2.2.2 = some (454, (.iconst 1), 1, 0, 0) := by decide +kernel
theorem f333_455 : aF 455 zM333.2.2.2.2.2.2.2 = some (455, .iadd, 1, 0, 0) := by decide +kernel
theorem f333_456 : aF 456 zM333.2.2.2.2.2.2.2 = some (456, .iaload, 1, 0, 0) := by decide +kernel
theorem f333_457 : aF 457 zM333.2.2.2.2.2.2.2 = some (457, (.aload_n 0), 1, 0, 0) := by decide +kernel
theorem f333_458 : aF 458 zM333.2.2.2.2.2.2.2 = some (458, (.iload_n 3), 1, 0, 0) := by decide +kernel
theorem f333_459 : aF 459 zM333.2.2.2.2.2.2.2 = some (459, (.iconst 2), 1, 0, 0) := by decide +kernel
theorem f333_460 : aF 460 zM333.2.2.2.2.2.2.2 = some (460, .iadd, 1, 0, 0) := by decide +kernel
theorem f333_461 : aF 461 zM333.2.2.2.2.2.2.2 = some (461, .iaload, 1, 0, 0) := by decide +kernel
theorem f333_462 : aF 462 zM333.2.2.2.2.2.2.2 = some (462, (.invokevirtual 51), 3, 228, 0) := by decide +kernel
theorem f333_465 : aF 465 zM333.2.2.2.2.2.2.2 = some (465, .pop, 1, 0, 0) := by decide +kernel
theorem f333_466 : aF 466 zM333.2.2.2.2.2.2.2 = some (466, (.goto 1609), 3, 2075, 0) := by decide +kernel
theorem f333_469 : aF 469 zM333.2.2.2.2.2.2.2 = some (469, (.aload_n 1), 1, 0, 0) := by decide +kernel
theorem f333_470 : aF 470 zM333.2.2.2.2.2.2.2 = some (470, (.aload_n 0), 1, 0, 0) := by decide +kernel
theorem f333_471 : aF 471 zM333.2.2.2.2.2.2.2 = some (471, (.iload_n 3), 1, 0, 0) := by decide +kernel
theorem f333_472 : aF 472 zM333.2.2.2.2.2.2.2 = some (472, (.iconst 1), 1, 0, 0) := by decide +kernel
theorem f333_473 : aF 473 zM333.2.2.2.2.2.2.2 = some (473, .iadd, 1, 0, 0) := by decide +kernel
theorem f333_474 : aF 474 zM333.2.2.2.2.2.2.2 = some (474, .iaload, 1, 0, 0) := by decide +kernel
theorem f333_475 : aF 475 zM333.2.2.2.2.2.2.2 = some (475, (.aload_n 0), 1, 0, 0) := by decide +kernel
theorem f333_476 : aF 476 zM333.2.2.2.2.2.2.2 = some (476, (.iload_n 3), 1, 0, 0) := by decide +kernel
theorem f333_477 : aF 477 zM333.2.2.2.2.2.2.2 = some (477, (.iconst 2), 1, 0, 0) := by decide +kernel
theorem f333_478 : aF 478 zM333.2.2.2.2.2.2.2 = some (478, .iadd, 1, 0, 0) := by decide +kernel
theorem f333_479 : aF 479 zM333.2.2.2.2.2.2.2 = some (479, .iaload, 1, 0, 0) := by decide +kernel
theorem f333_480 : aF 480 zM333.2.2.2.2.2.2.2 = some (480, (.aload_n 0), 1, 0, 0) := by decide +kernel
theorem f333_481 : aF 481 zM333.2.2.2.2.2.2.2 = some (481, (.iload_n 3), 1, 0, 0) := by decide +kernel
theorem f333_482 : aF 482 zM333.2.2.2.2.2.2.2 = some (482, (.iconst 3), 1, 0, 0) := by decide +kernel
theorem f333_483 : aF 483 zM333.2.2.2.2.2.2.2 = some (483, .iadd, 1, 0, 0) := by decide +kernel
theorem f333_484 : aF 484 zM333.2.2.2.2.2.2.2 = some (484, .iaload, 1, 0, 0) := by decide +kernel
theorem f333_485 : aF 485 zM333.2.2.2.2.2.2.2 = some (485, (.invokevirtual 52), 3, 153, 0) := by decide +kernel
theorem f333_488 : aF 488 zM333.2.2.2.2.2.2.2 = some (488, .pop, 1, 0, 0) := by decide +kernel
theorem f333_489 : aF 489 zM333.2.2.2.2.2.2.2 = some (489, (.aload_n 2), 1, 0, 0) := by decide +kernel
theorem f333_490 : aF 490 zM333.2.2.2.2.2.2.2 = some (490, (.aload_n 0), 1, 0, 0) := by decide +kernel
theorem f333_491 : aF 491 zM333.2.2.2.2.2.2.2 = some (491, (.iload_n 3), 1, 0, 0) := by decide +kernel
theorem f333_492 : aF 492 zM333.2.2.2.2.2.2.2 = some (492, (.iconst 1), 1, 0, 0) := by decide +kernel
theorem f333_493 : aF 493 zM333.2.2.2.2.2.2.2 = some (493, .iadd, 1, 0, 0) := by decide +kernel
theorem f333_494 : aF 494 zM333.2.2.2.2.2.2.2 = some (494, .iaload, 1, 0, 0) := by decide +kernel
theorem f333_495 : aF 495 zM333.2.2.2.2.2.2.2 = some (495, (.aload_n 0), 1, 0, 0) := by decide +kernel
theorem f333_496 : aF 496 zM333.2.2.2.2.2.2.2 = some (496, (.iload_n 3), 1, 0, 0) := by decide +kernel
theorem f333_497 : aF 497 zM333.2.2.2.2.2.2.2 = some (497, (.iconst 2), 1, 0, 0) := by decide +kernel
theorem f333_498 : aF 498 zM333.2.2.2.2.2.2.2 = some (498, .iadd, 1, 0, 0) := by decide +kernel
theorem f333_499 : aF 499 zM333.2.2.2.2.2.2.2 = some (499, .iaload, 1, 0, 0) := by decide +kernel
theorem f333_500 : aF 500 zM333.2.2.2.2.2.2.2 = some (500, (.aload_n 0), 1, 0, 0) := by decide +kernel
theorem f333_501 : aF 501 zM333.2.2.2.2.2.2.2 = some (501, (.iload_n 3), 1, 0, 0) := by decide +kernel
theorem f333_502 : aF 502 zM333.2.2.2.2.2.2.2 = some (502, (.iconst 3), 1, 0, 0) := by decide +kernel
theorem f333_503 : aF 503 zM333.2.2.2.2.2.2.2 = some (503, .iadd, 1, 0, 0) := by decide +kernel
theorem f333_504 : aF 504 zM333.2.2.2.2.2.2.2 = some (504, .iaload, 1, 0, 0) := by decide +kernel
theorem f333_505 : aF 505 zM333.2.2.2.2.2.2.2 = some (505, (.invokevirtual 56), 3, 223, 0) := by decide +kernel
theorem f333_508 : aF 508 zM333.2.2.2.2.2.2.2 = some (508, .pop, 1, 0, 0) := by decide +kernel
theorem f333_509 : aF 509 zM333.2.2.2.2.2.2.2 = some (509, (.goto 1566), 3, 2075, 0) := by decide +kernel
theorem f333_512 : aF 512 zM333.2.2.2.2.2.2.2 = some (512, (.aload_n 1), 1, 0, 0) := by decide +kernel
theorem f333_513 : aF 513 zM333.2.2.2.2.2.2.2 = some (513, (.aload_n 0), 1, 0, 0) := by decide +kernel
theorem f333_514 : aF 514 zM333.2.2.2.2.2.2.2 = some (514, (.iload_n 3), 1, 0, 0) := by decide +kernel
theorem f333_515 : aF 515 zM333.2.2.2.2.2.2.2 = some (515, (.iconst 1), 1, 0, 0) := by decide +kernel
theorem f333_516 : aF 516 zM333.2.2.2.2.2.2.2 = some (516, .iadd, 1, 0, 0) := by decide +kernel
theorem f333_517 : aF 517 zM333.2.2.2.2.2.2.2 = some (517, .iaload, 1, 0, 0) := by decide +kernel
theorem f333_518 : aF 518 zM333.2.2.2.2.2.2.2 = some (518, (.invokevirtual 57), 3, 154, 0) := by decide +kernel
theorem f333_521 : aF 521 zM333.2.2.2.2.2.2.2 = some (521, .pop, 1, 0, 0) := by decide +kernel
theorem f333_522 : aF 522 zM333.2.2.2.2.2.2.2 = some (522, (.aload_n 2), 1, 0, 0) := by decide +kernel
theorem f333_523 : aF 523 zM333.2.2.2.2.2.2.2 = some (523, (.aload_n 0), 1, 0, 0) := by decide +kernel
theorem f333_524 : aF 524 zM333.2.2.2.2.2.2.2 = some (524, (.iload_n 3), 1, 0, 0) := by decide +kernel
theorem f333_525 : aF 525 zM333.2.2.2.2.2.2.2 = some (525, (.iconst 1), 1, 0, 0) := by decide +kernel
theorem f333_526 : aF 526 zM333.2.2.2.2.2.2.2 = some (526, .iadd, 1, 0, 0) := by decide +kernel
theorem f333_527 : aF 527 zM333.2.2.2.2.2.2.2 = some (527, .iaload, 1, 0, 0) := by decide +kernel
theorem f333_528 : aF 528 zM333.2.2.2.2.2.2.2 = some (528, (.invokevirtual 60), 3, 224, 0) := by decide +kernel
theorem f333_531 : aF 531 zM333.2.2.2.2.2.2.2 = some (531, .pop, 1, 0, 0) := by decide +kernel
theorem f333_532 : aF 532 zM333.2.2.2.2.2.2.2 = some (532, (.goto 1543), 3, 2075, 0) := by decide +kernel
theorem f333_535 : aF 535 zM333.2.2.2.2.2.2.2 = some (535, (.aload_n 1), 1, 0, 0) := by decide +kernel
theorem f333_536 : aF 536 zM333.2.2.2.2.2.2.2 = some (536, (.aload_n 0), 1, 0, 0) := by decide +kernel
theorem f333_537 : aF 537 zM333.2.2.2.2.2.2.2 = some (537, (.iload_n 3), 1, 0, 0) := by decide +kernel
theorem f333_538 : aF 538 zM333.2.2.2.2.2.2.2 = some (538, (.iconst 1), 1, 0, 0) := by decide +kernel
theorem f333_539 : aF 539 zM333.2.2.2.2.2.2.2 = some (539, .iadd, 1, 0, 0) := by decide +kernel
theorem f333_540 : aF 540 zM333.2.2.2.2.2.2.2 = some (540, .iaload, 1, 0, 0) := by decide +kernel
theorem f333_541 : aF 541 zM333.2.2.2.2.2.2.2 = some (541, (.aload_n 0), 1, 0, 0) := by decide +kernel
theorem f333_542 : aF 542 zM333.2.2.2.2.2.2.2 = some (542, (.iload_n 3), 1, 0, 0) := by decide +kernel
theorem f333_543 : aF 543 zM333.2.2.2.2.2.2.2 = some (543, (.iconst 2), 1, 0, 0) := by decide +kernel
theorem f333_544 : aF 544 zM333.2.2.2.2.2.2.2 = some (544, .iadd, 1, 0, 0) := by decide +kernel
theorem f333_545 : aF 545 zM333.2.2.2.2.2.2.2 = some (545, .iaload, 1, 0, 0) := by decide +kernel
theorem f333_546 : aF 546 zM333.2.2.2.2.2.2.2 = some (546, (.aload_n 0), 1, 0, 0) := by decide +kernel
theorem f333_547 : aF 547 zM333.2.2.2.2.2.2.2 = some (547, (.iload_n 3), 1, 0, 0) := by decide +kernel
theorem f333_548 : aF 548 zM333.2.2.2.2.2.2.2 = some (548, (.iconst 3), 1, 0, 0) := by decide +kernel
theorem f333_549 : aF 549 zM333.2.2.2.2.2.2.2 = some (549, .iadd, 1, 0, 0) := by decide +kernel
theorem f333_550 : aF 550 zM333.2.2.2.2.2.2.2 = some (550, .iaload, 1, 0, 0) := by decide +kernel
theorem f333_551 : aF 551 zM333.2.2.2.2.2.2.2 = some (551, (.invokevirtual 61), 3, 155, 0) := by decide +kernel
theorem f333_554 : aF 554 zM333.2.2.2.2.2.2.2 = some (554, .pop, 1, 0, 0) := by decide +kernel
theorem f333_555 : aF 555 zM333.2.2.2.2.2.2.2 = some (555, (.aload_n 2), 1, 0, 0) := by decide +kernel
theorem f333_556 : aF 556 zM333.2.2.2.2.2.2.2 = some (556, (.aload_n 0), 1, 0, 0) := by decide +kernel
theorem f333_557 : aF 557 zM333.2.2.2.2.2.2.2 = some (557, (.iload_n 3), 1, 0, 0) := by decide +kernel
theorem f333_558 : aF 558 zM333.2.2.2.2.2.2.2 = some (558, (.iconst 1), 1, 0, 0) := by decide +kernel
theorem f333_559 : aF 559 zM333.2.2.2.2.2.2.2 = some (559, .iadd, 1, 0, 0) := by decide +kernel
theorem f333_560 : aF 560 zM333.2.2.2.2.2.2.2 = some (560, .iaload, 1, 0, 0) := by decide +kernel
theorem f333_561 : aF 561 zM333.2.2.2.2.2.2.2 = some (561, (.aload_n 0), 1, 0, 0) := by decide +kernel
theorem f333_562 : aF 562 zM333.2.2.2.2.2.2.2 = some (562, (.iload_n 3), 1, 0, 0) := by decide +kernel
theorem f333_563 : aF 563 zM333.2.2.2.2.2.2.2 = some (563, (.iconst 2), 1, 0, 0) := by decide +kernel
theorem f333_564 : aF 564 zM333.2.2.2.2.2.2.2 = some (564, .iadd, 1, 0, 0) := by decide +kernel
theorem f333_565 : aF 565 zM333.2.2.2.2.2.2.2 = some (565, .iaload, 1, 0, 0) := by decide +kernel
theorem f333_566 : aF 566 zM333.2.2.2.2.2.2.2 = some (566, (.aload_n 0), 1, 0, 0) := by decide +kernel
theorem f333_567 : aF 567 zM333.2.2.2.2.2.2.2 = some (567, (.iload_n 3), 1, 0, 0) := by decide +kernel
theorem f333_568 : aF 568 zM333.2.2.2.2.2.2.2 = some (568, (.iconst 3), 1, 0, 0) := by decide +kernel
theorem f333_569 : aF 569 zM333.2.2.2.2.2.2.2 = some (569, .iadd, 1, 0, 0) := by decide +kernel
theorem f333_570 : aF 570 zM333.2.2.2.2.2.2.2 = some (570, .iaload, 1, 0, 0) := by decide +kernel
theorem f333_571 : aF 571 zM333.2.2.2.2.2.2.2 = some (571, (.invokevirtual 64), 3, 225, 0) := by decide +kernel
theorem f333_574 : aF 574 zM333.2.2.2.2.2.2.2 = some (574, .pop, 1, 0, 0) := by decide +kernel
theorem f333_575 : aF 575 zM333.2.2.2.2.2.2.2 = some (575, (.goto 1500), 3, 2075, 0) := by decide +kernel
theorem f333_578 : aF 578 zM333.2.2.2.2.2.2.2 = some (578, (.aload_n 1), 1, 0, 0) := by decide +kernel
theorem f333_579 : aF 579 zM333.2.2.2.2.2.2.2 = some (579, (.aload_n 0), 1, 0, 0) := by decide +kernel
theorem f333_580 : aF 580 zM333.2.2.2.2.2.2.2 = some (580, (.iload_n 3), 1, 0, 0) := by decide +kernel
theorem f333_581 : aF 581 zM333.2.2.2.2.2.2.2 = some (581, (.iconst 1), 1, 0, 0) := by decide +kernel
theorem f333_582 : aF 582 zM333.2.2.2.2.2.2.2 = some (582, .iadd, 1, 0, 0) := by decide +kernel
theorem f333_583 : aF 583 zM333.2.2.2.2.2.2.2 = some (583, .iaload, 1, 0, 0) := by decide +kernel
theorem f333_584 : aF 584 zM333.2.2.2.2.2.2.2 = some (584, (.aload_n 0), 1, 0, 0) := by decide +kernel
theorem f333_585 : aF 585 zM333.2.2.2.2.2.2.2 = some (585, (.iload_n 3), 1, 0, 0) := by decide +kernel
theorem f333_586 : aF 586 zM333.2.2.2.2.2.2.2 = some (586, (.iconst 2), 1, 0, 0) := by decide +kernel
theorem f333_587 : aF 587 zM333.2.2.2.2.2.2.2 = some (587, .iadd, 1, 0, 0) := by decide +kernel
theorem f333_588 : aF 588 zM333.2.2.2.2.2.2.2 = some (588, .iaload, 1, 0, 0) := by decide +kernel
theorem f333_589 : aF 589 zM333.2.2.2.2.2.2.2 = some (589, (.aload_n 0), 1, 0, 0) := by decide +kernel
theorem f333_590 : aF 590 zM333.2.2.2.2.2.2.2 = some (590, (.iload_n 3), 1, 0, 0) := by decide +kernel
theorem f333_591 : aF 591 zM333.2.2.2.2.2.2.2 = some (591, (.iconst 3), 1, 0, 0) := by decide +kernel
theorem f333_592 : aF 592 zM333.2.2.2.2.2.2.2 = some (592, .iadd, 1, 0, 0) := by decide +kernel
theorem f333_593 : aF 593 zM333.2.2.2.2.2.2.2 = some (593, .iaload, 1, 0, 0) := by decide +kernel
theorem f333_594 : aF 594 zM333.2.2.2.2.2.2.2 = some (594, (.invokevirtual 65), 3, 156, 0) := by decide +kernel
theorem f333_597 : aF 597 zM333.2.2.2.2.2.2.2 = some (597, .pop, 1, 0, 0) := by decide +kernel
theorem f333_598 : aF 598 zM333.2.2.2.2.2.2.2 = some (598, (.aload_n 2), 1, 0, 0) := by decide +kernel
theorem f333_599 : aF 599 zM333.2.2.2.2.2.2.2 = some (599, (.aload_n 0), 1, 0, 0) := by decide +kernel
theorem f333_600 : aF 600 zM333.2.2.2.2.2.2.2 = some (600, (.iload_n 3), 1, 0, 0) := by decide +kernel
theorem f333_601 : aF 601 zM333.2.2.2.2.2.2.2 = some (601, (.iconst 1), 1, 0, 0) := by decide +kernel
theorem f333_602 : aF 602 zM333.2.2.2.2.2.2.2 = some (602, .iadd, 1, 0, 0) := by decide +kernel
theorem f333_603 : aF 603 zM333.2.2.2.2.2.2.2 = some (603, .iaload, 1, 0, 0) := by decide +kernel
theorem f333_604 : aF 604 zM333.2.2.2.2.2.2.2 = some (604, (.aload_n 0), 1, 0, 0) := by decide +kernel
theorem f333_605 : aF 605 zM333.2.2.2.2.2.2.2 = some (605, (.iload_n 3), 1, 0, 0) := by decide +kernel
theorem f333_606 : aF 606 zM333.2.2.2.2.2.2.2 = some (606, (.iconst 2), 1, 0, 0) := by decide +kernel
theorem f333_607 : aF 607 zM333.2.2.2.2.2.2.2 = some (607, .iadd, 1, 0, 0) := by decide +kernel
theorem f333_608 : aF 608 zM333.2.2.2.2.2.2.2 = some (608, .iaload, 1, 0, 0) := by decide +kernel
theorem f333_609 : aF 609 zM333.2.2.2.2.2.2.2 = some (609, (.aload_n 0), 1, 0, 0) := by decide +kernel
theorem f333_610 : aF 610 zM333.2.2.2.2.2.2.2 = some (610, (.iload_n 3), 1, 0, 0) := by decide +kernel
theorem f333_611 : aF 611 zM333.2.2.2.2.2.2.2 = some (611, (.iconst 3), 1, 0, 0) := by decide +kernel
theorem f333_612 : aF 612 zM333.2.2.2.2.2.2.2 = some (612, .iadd, 1, 0, 0) := by decide +kernel
theorem f333_613 : aF 613 zM333.2.2.2.2.2.2.2 = some (613, .iaload, 1, 0, 0) := by decide +kernel
theorem f333_614 : aF 614 zM333.2.2.2.2.2.2.2 = some (614, (.invokevirtual 68), 3, 227, 0) := by decide +kernel
theorem f333_617 : aF 617 zM333.2.2.2.2.2.2.2 = some (617, .pop, 1, 0, 0) := by decide +kernel
theorem f333_618 : aF 618 zM333.2.2.2.2.2.2.2 = some (618, (.goto 1457), 3, 2075, 0) := by decide +kernel
theorem f333_621 : aF 621 zM333.2.2.2.2.2.2.2 = some (621, (.aload_n 1), 1, 0, 0) := by decide +kernel
theorem f333_622 : aF 622 zM333.2.2.2.2.2.2.2 = some (622, (.aload_n 0), 1, 0, 0) := by decide +kernel
theorem f333_623 : aF 623 zM333.2.2.2.2.2.2.2 = some (623, (.iload_n 3), 1, 0, 0) := by decide +kernel
theorem f333_624 : aF 624 zM333.2.2.2.2.2.2.2 = some (624, (.iconst 1), 1, 0, 0) := by decide +kernel
theorem f333_625 : aF 625 zM333.2.2.2.2.2.2.2 = some (625, .iadd, 1, 0, 0) := by decide +kernel
theorem f333_626 : aF 626 zM333.2.2.2.2.2.2.2 = some (626, .iaload, 1, 0, 0) := by decide +kernel
theorem f333_627 : aF 627 zM333.2.2.2.2.2.2.2 = some (627, (.aload_n 0), 1, 0, 0) := by decide +kernel
theorem f333_628 : aF 628 zM333.2.2.2.2.2.2.2 = some (628, (.iload_n 3), 1, 0, 0) := by decide +kernel
theorem f333_629 : aF 629 zM333.2.2.2.2.2.2.2 = some (629, (.iconst 2), 1, 0, 0) := by decide +kernel
theorem f333_630 : aF 630 zM333.2.2.2.2.2.2.2 = some (630, .iadd, 1, 0, 0) := by decide +kernel
theorem f333_631 : aF 631 zM333.2.2.2.2.2.2.2 = some (631, .iaload, 1, 0, 0) := by decide +kernel
theorem f333_632 : aF 632 zM333.2.2.2.2.2.2.2 = some (632, (.aload_n 0), 1, 0, 0) := by decide +kernel
theorem f333_633 : aF 633 zM333.2.2.2.2.2.2.2 = some (633, (.iload_n 3), 1, 0, 0) := by decide +kernel
theorem f333_634 : aF 634 zM333.2.2.2.2.2.2.2 = some (634, (.iconst 3), 1, 0, 0) := by decide +kernel
theorem f333_635 : aF 635 zM333.2.2.2.2.2.2.2 = some (635, .iadd, 1, 0, 0) := by decide +kernel
theorem f333_636 : aF 636 zM333.2.2.2.2.2.2.2 = some (636, .iaload, 1, 0, 0) := by decide +kernel
theorem f333_637 : aF 637 zM333.2.2.2.2.2.2.2 = some (637, (.invokevirtual 69), 3, 157, 0) := by decide +kernel
theorem f333_640 : aF 640 zM333.2.2.2.2.2.2.2 = some (640, .pop, 1, 0, 0) := by decide +kernel
theorem f333_641 : aF 641 zM333.2.2.2.2.2.2.2 = some (641, (.aload_n 2), 1, 0, 0) := by decide +kernel
theorem f333_642 : aF 642 zM333.2.2.2.2.2.2.2 = some (642, (.aload_n 0), 1, 0, 0) := by decide +kernel
theorem f333_643 : aF 643 zM333.2.2.2.2.2.2.2 = some (643, (.iload_n 3), 1, 0, 0) := by decide +kernel
theorem f333_644 : aF 644 zM333.2.2.2.2.2.2.2 = some (644, (.iconst 1), 1, 0, 0) := by decide +kernel
theorem f333_645 : aF 645 zM333.2.2.2.2.2.2.2 = some (645, .iadd, 1, 0, 0) := by decide +kernel
theorem f333_646 : aF 646 zM333.2.2.2.2.2.2.2 = some (646, .iaload, 1, 0, 0) := by decide +kernel
theorem f333_647 : aF 647 zM333.2.2.2.2.2.2.2 = some (647, (.aload_n 0), 1, 0, 0) := by decide +kernel
theorem f333_648 : aF 648 zM333.2.2.2.2.2.2.2 = some (648, (.iload_n 3), 1, 0, 0) := by decide +kernel
theorem f333_649 : aF 649 zM333.2.2.2.2.2.2.2 = some (649, (.iconst 2), 1, 0, 0) := by decide +kernel
theorem f333_650 : aF 650 zM333.2.2.2.2.2.2.2 = some (650, .iadd, 1, 0, 0) := by decide +kernel
theorem f333_651 : aF 651 zM333.2.2.2.2.2.2.2 = some (651, .iaload, 1, 0, 0) := by decide +kernel
theorem f333_652 : aF 652 zM333.2.2.2.2.2.2.2 = some (652, (.aload_n 0), 1, 0, 0) := by decide +kernel
theorem f333_653 : aF 653 zM333.2.2.2.2.2.2.2 = some (653, (.iload_n 3), 1, 0, 0) := by decide +kernel
theorem f333_654 : aF 654 zM333.2.2.2.2.2.2.2 = some (654, (.iconst 3), 1, 0, 0) := by decide +kernel
theorem f333_655 : aF 655 zM333.2.2.2.2.2.2.2 = some (655, .iadd, 1, 0, 0) := by decide +kernel
theorem f333_656 : aF 656 zM333.2.2.2.2.2.2.2 = some (656, .iaload, 1, 0, 0) := by decide +kernel
theorem f333_657 : aF 657 zM333.2.2.2.2.2.2.2 = some (657, (.invokevirtual 72), 3, 230, 0) := by decide +kernel
theorem f333_660 : aF 660 zM333.2.2.2.2.2.2.2 = some (660, .pop, 1, 0, 0) := by decide +kernel
theorem f333_661 : aF 661 zM333.2.2.2.2.2.2.2 = some (661, (.goto 1414), 3, 2075, 0) := by decide +kernel
theorem f333_664 : aF 664 zM333.2.2.2.2.2.2.2 = some (664, (.aload_n 1), 1, 0, 0) := by decide +kernel
theorem f333_665 : aF 665 zM333.2.2.2.2.2.2.2 = some (665, (.aload_n 0), 1, 0, 0) := by decide +kernel
theorem f333_666 : aF 666 zM333.2.2.2.2.2.2.2 = some (666, (.iload_n 3), 1, 0, 0) := by decide +kernel
theorem f333_667 : aF 667 zM333.2.2.2.2.2.2.2 = some (667, (.iconst 1), 1, 0, 0) := by decide +kernel
theorem f333_668 : aF 668 zM333.2.2.2.2.2.2.2 = some (668, .iadd, 1, 0, 0) := by decide +kernel
theorem f333_669 : aF 669 zM333.2.2.2.2.2.2.2 = some (669, .iaload, 1, 0, 0) := by decide +kernel
theorem f333_670 : aF 670 zM333.2.2.2.2.2.2.2 = some (670, (.aload_n 0), 1, 0, 0) := by decide +kernel
theorem f333_671 : aF 671 zM333.2.2.2.2.2.2.2 = some (671, (.iload_n 3), 1, 0, 0) := by decide +kernel
theorem f333_672 : aF 672 zM333.2.2.2.2.2.2.2 = some (672, (.iconst 2), 1, 0, 0) := by decide +kernel
theorem f333_673 : aF 673 zM333.2.2.2.2.2.2.2 = some (673, .iadd, 1, 0, 0) := by decide +kernel
theorem f333_674 : aF 674 zM333.2.2.2.2.2.2.2 = some (674, .iaload, 1, 0, 0) := by decide +kernel
theorem f333_675 : aF 675 zM333.2.2.2.2.2.2.2 = some (675, (.invokevirtual 73), 3, 158, 0) := by decide +kernel
theorem f333_678 : aF 678 zM333.2.2.2.2.2.2.2 = some (678, .pop, 1, 0, 0) := by decide +kernel
theorem f333_679 : aF 679 zM333.2.2.2.2.2.2.2 = some (679, (.aload_n 2), 1, 0, 0) := by decide +kernel
theorem f333_680 : aF 680 zM333.2.2.2.2.2.2.2 = some (680, (.aload_n 0), 1, 0, 0) := by decide +kernel
theorem f333_681 : aF 681 zM333.2.2.2.2.2.2.2 = some (681, (.iload_n 3), 1, 0, 0) := by decide +kernel
theorem f333_682 : aF 682 zM333.2.2.2.2.2.2.2 = some (682, (.iconst 1), 1, 0, 0) := by decide +kernel
theorem f333_683 : aF 683 zM333.2.2.2.2.2.2.2 = some (683, .iadd, 1, 0, 0) := by decide +kernel
theorem f333_684 : aF 684 zM333.2.2.2.2.2.2.2 = some (684, .iaload, 1, 0, 0) := by decide +kernel
theorem f333_685 : aF 685 zM333.2.2.2.2.2.2.2 = some (685, (.aload_n 0), 1, 0, 0) := by decide +kernel
theorem f333_686 : aF 686 zM333.2.2.2.2.2.2.2 = some (686, (.iload_n 3), 1, 0, 0) := by decide +kernel
theorem f333_687 : aF 687 zM333.2.2.2.2.2.2.2 = some (687, (.iconst 2), 1, 0, 0) := by decide +kernel
theorem f333_688 : aF 688 zM333.2.2.2.2.2.2.2 = some (688, .iadd, 1, 0, 0) := by decide +kernel
theorem f333_689 : aF 689 zM333.2.2.2.2.2.2.2 = some (689, .iaload, 1, 0, 0) := by decide +kernel
theorem f333_690 : aF 690 zM333.2.2.2.2.2.2.2 = some (690, (.invokevirtual 76), 3, 231, 0) := by decide +kernel
theorem f333_693 : aF 693 zM333.2.2.2.2.2.2.2 = some (693, .pop, 1, 0, 0) := by decide +kernel
theorem f333_694 : aF 694 zM333.2.2.2.2.2.2.2 = some (694, (.goto 1381), 3, 2075, 0) := by decide +kernel
theorem f333_697 : aF 697 zM333.2.2.2.2.2.2.2 = some (697, (.aload_n 1), 1, 0, 0) := by decide +kernel
theorem f333_698 : aF 698 zM333.2.2.2.2.2.2.2 = some (698, (.aload_n 0), 1, 0, 0) := by decide +kernel
theorem f333_699 : aF 699 zM333.2.2.2.2.2.2.2 = some (699, (.iload_n 3), 1, 0, 0) := by decide +kernel
theorem f333_700 : aF 700 zM333.2.2.2.2.2.2.2 = some (700, (.iconst 1), 1, 0, 0) := by decide +kernel
theorem f333_701 : aF 701 zM333.2.2.2.2.2.2.2 = some (701, .iadd, 1, 0, 0) := by decide +kernel
theorem f333_702 : aF 702 zM333.2.2.2.2.2.2.2 = some (702, .iaload, 1, 0, 0) := by decide +kernel
theorem f333_703 : aF 703 zM333.2.2.2.2.2.2.2 = some (703, (.aload_n 0), 1, 0, 0) := by decide +kernel
theorem f333_704 : aF 704 zM333.2.2.2.2.2.2.2 = some (704, (.iload_n 3), 1, 0, 0) := by decide +kernel
theorem f333_705 : aF 705 zM333.2.2.2.2.2.2.2 = some (705, (.iconst 2), 1, 0, 0) := by decide +kernel
theorem f333_706 : aF 706 zM333.2.2.2.2.2.2.2 = some (706, .iadd, 1, 0, 0) := by decide +kernel
theorem f333_707 : aF 707 zM333.2.2.2.2.2.2.2 = some (707, .iaload, 1, 0, 0) := by decide +kernel
theorem f333_708 : aF 708 zM333.2.2.2.2.2.2.2 = some (708, (.aload_n 0), 1, 0, 0) := by decide +kernel
theorem f333_709 : aF 709 zM333.2.2.2.2.2.2.2 = some (709, (.iload_n 3), 1, 0, 0) := by decide +kernel
theorem f333_710 : aF 710 zM333.2.2.2.2.2.2.2 = some (710, (.iconst 3), 1, 0, 0) := by decide +kernel
theorem f333_711 : aF 711 zM333.2.2.2.2.2.2.2 = some (711, .iadd, 1, 0, 0) := by decide +kernel
theorem f333_712 : aF 712 zM333.2.2.2.2.2.2.2 = some (712, .iaload, 1, 0, 0) := by decide +kernel
theorem f333_713 : aF 713 zM333.2.2.2.2.2.2.2 = some (713, (.invokevirtual 77), 3, 159, 0) := by decide +kernel
theorem f333_716 : aF 716 zM333.2.2.2.2.2.2.2 = some (716, .pop, 1, 0, 0) := by decide +kernel
theorem f333_717 : aF 717 zM333.2.2.2.2.2.2.2 = some (717, (.aload_n 2), 1, 0, 0) := by decide +kernel
theorem f333_718 : aF 718 zM333.2.2.2.2.2.2.2 = some (718, (.aload_n 0), 1, 0, 0) := by decide +kernel
theorem f333_719 : aF 719 zM333.2.2.2.2.2.2.2 = some (719, (.iload_n 3), 1, 0, 0) := by decide +kernel
theorem f333_720 : aF 720 zM333.2.2.2.2.2.2.2 = some (720, (.iconst 1), 1, 0, 0) := by decide +kernel
theorem f333_721 : aF 721 zM333.2.2.2.2.2.2.2 = some (721, .iadd, 1, 0, 0) := by decide +kernel
theorem f333_722 : aF 722 zM333.2.2.2.2.2.2.2 = some (722, .iaload, 1, 0, 0) := by decide +kernel
theorem f333_723 : aF 723 zM333.2.2.2.2.2.2.2 = some (723, (.aload_n 0), 1, 0, 0) := by decide +kernel
theorem f333_724 : aF 724 zM333.2.2.2.2.2.2.2 = some (724, (.iload_n 3), 1, 0, 0) := by decide +kernel
theorem f333_725 : aF 725 zM333.2.2.2.2.2.2.2 = some (725, (.iconst 2), 1, 0, 0) := by decide +kernel
theorem f333_726 : aF 726 zM333.2.2.2.2.2.2.2 = some (726, .iadd, 1, 0, 0) := by decide +kernel
theorem f333_727 : aF 727 zM333.2.2.2.2.2.2.2 = some (727, .iaload, 1, 0, 0) := by decide +kernel
theorem f333_728 : aF 728 zM333.2.2.2.2.2.2.2 = some (728, (.aload_n 0), 1, 0, 0) := by decide +kernel
theorem f333_729 : aF 729 zM333.2.2.2.2.2.2.2 = some (729, (.iload_n 3), 1, 0, 0) := by decide +kernel
theorem f333_730 : aF 730 zM333.2.2.2.2.2.2.2 = some (730, (.iconst 3), 1, 0, 0) := by decide +kernel
theorem f333_731 : aF 731 zM333.2.2.2.2.2.2.2 = some (731, .iadd, 1, 0, 0) := by decide +kernel
theorem f333_732 : aF 732 zM333.2.2.2.2.2.2.2 = some (732, .iaload, 1, 0, 0) := by decide +kernel
theorem f333_733 : aF 733 zM333.2.2.2.2.2.2.2 = some (733, (.invokevirtual 80), 3, 232, 0) := by decide +kernel
theorem f333_736 : aF 736 zM333.2.2.2.2.2.2.2 = some (736, .pop, 1, 0, 0) := by decide +kernel
theorem f333_737 : aF 737 zM333.2.2.2.2.2.2.2 = some (737, (.goto 1338), 3, 2075, 0) := by decide +kernel
theorem f333_740 : aF 740 zM333.2.2.2.2.2.2.2 = some (740, (.aload_n 1), 1, 0, 0) := by decide +kernel
theorem f333_741 : aF 741 zM333.2.2.2.2.2.2.2 = some (741, (.aload_n 0), 1, 0, 0) := by decide +kernel
theorem f333_742 : aF 742 zM333.2.2.2.2.2.2.2 = some (742, (.iload_n 3), 1, 0, 0) := by decide +kernel
theorem f333_743 : aF 743 zM333.2.2.2.2.2.2.2 = some (743, (.iconst 1), 1, 0, 0) := by decide +kernel
theorem f333_744 : aF 744 zM333.2.2.2.2.2.2.2 = some (744, .iadd, 1, 0, 0) := by decide +kernel
theorem f333_745 : aF 745 zM333.2.2.2.2.2.2.2 = some (745, .iaload, 1, 0, 0) := by decide +kernel
theorem f333_746 : aF 746 zM333.2.2.2.2.2.2.2 = some (746, (.aload_n 0), 1, 0, 0) := by decide +kernel
theorem f333_747 : aF 747 zM333.2.2.2.2.2.2.2 = some (747, (.iload_n 3), 1, 0, 0) := by decide +kernel
theorem f333_748 : aF 748 zM333.2.2.2.2.2.2.2 = some (748, (.iconst 2), 1, 0, 0) := by decide +kernel
theorem f333_749 : aF 749 zM333.2.2.2.2.2.2.2 = some (749, .iadd, 1, 0, 0) := by decide +kernel
theorem f333_750 : aF 750 zM333.2.2.2.2.2.2.2 = some (750, .iaload, 1, 0, 0) := by decide +kernel
theorem f333_751 : aF 751 zM333.2.2.2.2.2.2.2 = some (751, (.aload_n 0), 1, 0, 0) := by decide +kernel
theorem f333_752 : aF 752 zM333.2.2.2.2.2.2.2 = some (752, (.iload_n 3), 1, 0, 0) := by decide +kernel
theorem f333_753 : aF 753 zM333.2.2.2.2.2.2.2 = some (753, (.iconst 3), 1, 0, 0) := by decide +kernel
theorem f333_754 : aF 754 zM333.2.2.2.2.2.2.2 = some (754, .iadd, 1, 0, 0) := by decide +kernel
theorem f333_755 : aF 755 zM333.2.2.2.2.2.2.2 = some (755, .iaload, 1, 0, 0) := by decide +kernel
theorem f333_756 : aF 756 zM333.2.2.2.2.2.2.2 = some (756, (.aload_n 0), 1, 0, 0) := by decide +kernel
theorem f333_757 : aF 757 zM333.2.2.2.2.2.2.2 = some (757, (.iload_n 3), 1, 0, 0) := by decide +kernel
theorem f333_758 : aF 758 zM333.2.2.2.2.2.2.2 = some (758, (.iconst 4), 1, 0, 0) := by decide +kernel
theorem f333_759 : aF 759 zM333.2.2.2.2.2.2.2 = some (759, .iadd, 1, 0, 0) := by decide +kernel
theorem f333_760 : aF 760 zM333.2.2.2.2.2.2.2 = some (760, .iaload, 1, 0, 0) := by decide +kernel
theorem f333_761 : aF 761 zM333.2.2.2.2.2.2.2 = some (761, (.aload_n 0), 1, 0, 0) := by decide +kernel
theorem f333_762 : aF 762 zM333.2.2.2.2.2.2.2 = some (762, (.iload_n 3), 1, 0, 0) := by decide +kernel
theorem f333_763 : aF 763 zM333.2.2.2.2.2.2.2 = some (763, (.iconst 5), 1, 0, 0) := by decide +kernel
theorem f333_764 : aF 764 zM333.2.2.2.2.2.2.2 = some (764, .iadd, 1, 0, 0) := by decide +kernel
theorem f333_765 : aF 765 zM333.2.2.2.2.2.2.2 = some (765, .iaload, 1, 0, 0) := by decide +kernel
theorem f333_766 : aF 766 zM333.2.2.2.2.2.2.2 = some (766, (.invokevirtual 81), 3, 160, 0) := by decide +kernel
theorem f333_769 : aF 769 zM333.2.2.2.2.2.2.2 = some (769, .pop, 1, 0, 0) := by decide +kernel
theorem f333_770 : aF 770 zM333.2.2.2.2.2.2.2 = some (770, (.aload_n 2), 1, 0, 0) := by decide +kernel
theorem f333_771 : aF 771 zM333.2.2.2.2.2.2.2 = some (771, (.aload_n 0), 1, 0, 0) := by decide +kernel
theorem f333_772 : aF 772 zM333.2.2.2.2.2.2.2 = some (772, (.iload_n 3), 1, 0, 0) := by decide +kernel
theorem f333_773 : aF 773 zM333.2.2.2.2.2.2.2 = some (773, (.iconst 1), 1, 0, 0) := by decide +kernel
theorem f333_774 : aF 774 zM333.2.2.2.2.2.2.2 = some (774, .iadd, 1, 0, 0) := by decide +kernel
theorem f333_775 : aF 775 zM333.2.2.2.2.2.2.2 = some (775, .iaload, 1, 0, 0) := by decide +kernel
theorem f333_776 : aF 776 zM333.2.2.2.2.2.2.2 = some (776, (.aload_n 0), 1, 0, 0) := by decide +kernel
theorem f333_777 : aF 777 zM333.2.2.2.2.2.2.2 = some (777, (.iload_n 3), 1, 0, 0) := by decide +kernel
theorem f333_778 : aF 778 zM333.2.2.2.2.2.2.2 = some (778, (.iconst 2), 1, 0, 0) := by decide +kernel
theorem f333_779 : aF 779 zM333.2.2.2.2.2.2.2 = some (779, .iadd, 1, 0, 0) := by decide +kernel
theorem f333_780 : aF 780 zM333.2.2.2.2.2.2.2 = some (780, .iaload, 1, 0, 0) := by decide +kernel
theorem f333_781 : aF 781 zM333.2.2.2.2.2.2.2 = some (781, (.aload_n 0), 1, 0, 0) := by decide +kernel
theorem f333_782 : aF 782 zM333.2.2.2.2.2.2.2 = some (782, (.iload_n 3), 1, 0, 0) := by decide +kernel
theorem f333_783 : aF 783 zM333.2.2.2.2.2.2.2 = some (783, (.iconst 3), 1, 0, 0) := by decide +kernel
theorem f333_784 : aF 784 zM333.2.2.2.2.2.2.2 = some (784, .iadd, 1, 0, 0) := by decide +kernel
theorem f333_785 : aF 785 zM333.2.2.2.2.2.2.2 = some (785, .iaload, 1, 0, 0) := by decide +kernel
theorem f333_786 : aF 786 zM333.2.2.2.2.2.2.2 = some (786, (.aload_n 0), 1, 0, 0) := by decide +kernel
theorem f333_787 : aF 787 zM333.2.2.2.2.2.2.2 = some (787, (.iload_n 3), 1, 0, 0) := by decide +kernel
theorem f333_788 : aF 788 zM333.2.2.2.2.2.2.2 = some (788, (.iconst 4), 1, 0, 0) := by decide +kernel
theorem f333_789 : aF 789 zM333.2.2.2.2.2.2.2 = some (789, .iadd, 1, 0, 0) := by decide +kernel
theorem f333_790 : aF 790 zM333.2.2.2.2.2.2.2 = some (790, .iaload, 1, 0, 0) := by decide +kernel
theorem f333_791 : aF 791 zM333.2.2.2.2.2.2.2 = some (791, (.aload_n 0), 1, 0, 0) := by decide +kernel
theorem f333_792 : aF 792 zM333.2.2.2.2.2.2.2 = some (792, (.iload_n 3), 1, 0, 0) := by decide +kernel
theorem f333_793 : aF 793 zM333.2.2.2.2.2.2.2 = some (793, (.iconst 5), 1, 0, 0) := by decide +kernel
theorem f333_794 : aF 794 zM333.2.2.2.2.2.2.2 = some (794, .iadd, 1, 0, 0) := by decide +kernel
theorem f333_795 : aF 795 zM333.2.2.2.2.2.2.2 = some (795, .iaload, 1, 0, 0) := by decide +kernel
theorem f333_796 : aF 796 zM333.2.2.2.2.2.2.2 = some (796, (.invokevirtual 85), 3, 242, 0) := by decide +kernel
theorem f333_799 : aF 799 zM333.2.2.2.2.2.2.2 = some (799, .pop, 1, 0, 0) := by decide +kernel
theorem f333_800 : aF 800 zM333.2.2.2.2.2.2.2 = some (800, (.goto 1275), 3, 2075, 0) := by decide +kernel
theorem lc_8 {X : aX} (G : hG X 302) (hX : X 0 = some (8, zab)) {L : Nat} {xs : Nat → Int32} (hX1 : X 1 = some (L, xs)) (hL : L ≤ 3072) {i : Int32} (i0 : 0 ≤ i.toInt) (i1 : i.toInt + 6 ≤ L) {Q : Option Value → aH → Prop} {σ : List Nat} {h : aH} (I : dI σ h) (J : JX h) (kq : ∀ (σ' : List Nat) (h' : aH), dI σ' h' → JX h' → dPh h' ≤ dPh h → Wp X 64 zM333 Q 2075 [some (.retAddr 1), some (.ref 0), some (.ref 72), some (.int i)] [] h') : Wp X 64 zM333 Q 436 [some (.retAddr 1), some (.ref 0), some (.ref 72), some (.int i)] [] h := by
  obtain ⟨J, K⟩ := J
  refine wp1 (fun n d => r_aloadn f333_436 rfl) ?_
  refine wp1 (fun n d => r_aloadnX f333_437 rfl) ?_
  refine wp1 (fun n d => r_iloadn f333_438 rfl) ?_
  refine w_iconst f333_439 (fun v439 hv439 => ?_)
  refine w_iadd f333_440 (by omega) (by omega) (fun v440 hv440 => ?_)
  refine w_xld f333_441 hX1 (by omega) (by omega) (fun v441 hv441 => ?_)
  refine wp1 (fun n d => r_aloadnX f333_442 rfl) ?_
  refine wp1 (fun n d => r_iloadn f333_443 rfl) ?_
  refine w_iconst f333_444 (fun v444 hv444 => ?_)
  refine w_iadd f333_445 (by omega) (by omega) (fun v445 hv445 => ?_)
  refine w_xld f333_446 hX1 (by omega) (by omega) (fun v446 hv446 => ?_)
  obtain ⟨fs1002, c1002⟩ := hI_o I (r := 0) (ci := 11) (by decide +kernel)
  refine wp_good (G 42 (by decide) cC42 rfl) (Y := zM152) (show zmt[152]? = some zM152 from rfl) I (ρ := [0, v441.toInt, v446.toInt]) (dK_v (kV_of rfl ⟨⟨by decide, by decide⟩, iR v441, iR v446, trivial⟩)) (dL_of (l := [some (.ref 0), some (.int v441), some (.int v446), none, none]) ⟨lw_r (by decide), lw_i rfl, lw_i rfl, lw_0, lw_0, trivial⟩) (fun n d v h' e => r_virt (as := [.int v441, .int v446]) (r := []) f333_447 c1002 (show zmt[152]? = some zM152 from rfl) rfl rfl rfl rfl rfl rfl e) (by first | decide | (show 3 + 1 ≤ _; omega)) (fun v h1001 σ1001 I1001 G1001 P1001 => ?_)
  obtain ⟨v447, vq447⟩ : ∃ y : Int32, v = some (.int y) := by
    obtain ⟨P, hm, ρ', rh', kP, sP⟩ := P1001
    cases List.mem_singleton.mp hm
    cases v with
    | none => exact sP.elim
    | some v =>
      obtain ⟨⟨x, y, rfl, -, -⟩, -⟩ := sP
      exact ⟨x, rfl⟩
  subst vq447
  show Wp _ _ _ _ 450 [some (.retAddr 1), some (.ref 0), some (.ref 72), some (.int i)] [.int v447] _
  obtain ⟨fs1003, c1003, df1003⟩ := dG_o I.1 G1001 c1002 (by decide)
  refine wp1 (fun nn dd => r_pop f333_450 rfl) ?_
  refine wp1 (fun n d => r_aloadn f333_451 rfl) ?_
  refine wp1 (fun n d => r_aloadnX f333_452 rfl) ?_
  refine wp1 (fun n d => r_iloadn f333_453 rfl) ?_
  refine w_iconst f333_454 (fun v454 hv454 => ?_)
  refine w_iadd f333_455 (by omega) (by omega) (fun v455 hv455 => ?_)
  refine w_xld f333_456 hX1 (by omega) (by omega) (fun v456 hv456 => ?_)
  refine wp1 (fun n d => r_aloadnX f333_457 rfl) ?_
  refine wp1 (fun n d => r_iloadn f333_458 rfl) ?_
  refine w_iconst f333_459 (fun v459 hv459 => ?_)
  refine w_iadd f333_460 (by omega) (by omega) (fun v460 hv460 => ?_)
  refine w_xld f333_461 hX1 (by omega) (by omega) (fun v461 hv461 => ?_)
  obtain ⟨fs1005, c1005⟩ := hI_o I1001 (r := 72) (ci := 12) (by decide +kernel)
  refine wp_good (G 45 (by decide) cC45 rfl) (Y := zM228) (show zmt[228]? = some zM228 from rfl) I1001 (ρ := [0, v456.toInt, v461.toInt]) (dK_v (kV_of rfl ⟨⟨by decide, by decide⟩, iR v456, iR v461, trivial⟩)) (dL_of (l := [some (.ref 72), some (.int v456), some (.int v461)]) ⟨lw_r (by decide), lw_i rfl, lw_i rfl, trivial⟩) (fun n d v h' e => r_virt (as := [.int v456, .int v461]) (r := []) f333_462 c1005 (show zmt[228]? = some zM228 from rfl) rfl rfl rfl rfl rfl rfl e) (by first | decide | (show 3 + 1 ≤ _; omega)) (fun v h1004 σ1004 I1004 G1004 P1004 => ?_)
  obtain ⟨v462, vq462⟩ : ∃ y : Int32, v = some (.int y) := by
    obtain ⟨P, hm, ρ', rh', kP, sP⟩ := P1004
    cases List.mem_singleton.mp hm
    cases v with
    | none => exact sP.elim
    | some v =>
      obtain ⟨⟨x, y, rfl, -, -⟩, -⟩ := sP
      exact ⟨x, rfl⟩
  subst vq462
  show Wp _ _ _ _ 465 [some (.retAddr 1), some (.ref 0), some (.ref 72), some (.int i)] [.int v462] _
  obtain ⟨fs1006, c1006, df1006⟩ := dG_o I1001.1 G1004 c1003 (by decide)
  obtain ⟨fs1007, c1007, df1007⟩ := dG_o I1001.1 G1004 c1005 (by decide)
  have GG : dG ([] : List (Nat × Nat)) σ h σ1004 h1004 := (dG_trans (dG_sub (by decide) G1001) (dG_sub (by decide) G1004))
  refine wp1 (fun nn dd => r_pop f333_465 rfl) ?_
  refine wp1 (fun nn dd => r_goto f333_466) ?_
  exact kq _ _ I1004 ⟨JQ_dG J I GG (by decide), JRing_dG K.1 I GG (by decide), JBody_dG K.2.1 I GG (by decide), JShelf_dG K.2.2 I GG (by decide)⟩ GG.2.2
theorem lc_9 {X : aX} (G : hG X 302) (hX : X 0 = some (8, zab)) {L : Nat} {xs : Nat → Int32} (hX1 : X 1 = some (L, xs)) (hL : L ≤ 3072) {i : Int32} (i0 : 0 ≤ i.toInt) (i1 : i.toInt + 6 ≤ L) {Q : Option Value → aH → Prop} {σ : List Nat} {h : aH} (I : dI σ h) (J : JX h) (kq : ∀ (σ' : List Nat) (h' : aH), dI σ' h' → JX h' → dPh h' ≤ dPh h → Wp X 64 zM333 Q 2075 [some (.retAddr 1), some (.ref 0), some (.ref 72), some (.int i)] [] h') : Wp X 64 zM333 Q 469 [some (.retAddr 1), some (.ref 0), some (.ref 72), some (.int i)] [] h := by
  obtain ⟨J, K⟩ := J
  refine wp1 (fun n d => r_aloadn f333_469 rfl) ?_
  refine wp1 (fun n d => r_aloadnX f333_470 rfl) ?_
  refine wp1 (fun n d => r_iloadn f333_471 rfl) ?_
  refine w_iconst f333_472 (fun v472 hv472 => ?_)
  refine w_iadd f333_473 (by omega) (by omega) (fun v473 hv473 => ?_)
  refine w_xld f333_474 hX1 (by omega) (by omega) (fun v474 hv474 => ?_)
  refine wp1 (fun n d => r_aloadnX f333_475 rfl) ?_
  refine wp1 (fun n d => r_iloadn f333_476 rfl) ?_
  refine w_iconst f333_477 (fun v477 hv477 => ?_)
  refine w_iadd f333_478 (by omega) (by omega) (fun v478 hv478 => ?_)
  refine w_xld f333_479 hX1 (by omega) (by omega) (fun v479 hv479 => ?_)
  refine wp1 (fun n d => r_aloadnX f333_480 rfl) ?_
  refine wp1 (fun n d => r_iloadn f333_481 rfl) ?_
  refine w_iconst f333_482 (fun v482 hv482 => ?_)
  refine w_iadd f333_483 (by omega) (by omega) (fun v483 hv483 => ?_)
  refine w_xld f333_484 hX1 (by omega) (by omega) (fun v484 hv484 => ?_)
  obtain ⟨fs1002, c1002⟩ := hI_o I (r := 0) (ci := 11) (by decide +kernel)
  refine wp_good (G 46 (by decide) cC46 rfl) (Y := zM153) (show zmt[153]? = some zM153 from rfl) I (ρ := [0, v474.toInt, v479.toInt, v484.toInt]) (dK_v (kV_of rfl ⟨⟨by decide, by decide⟩, iR v474, iR v479, iR v484, trivial⟩)) (dL_of (l := [some (.ref 0), some (.int v474), some (.int v479), some (.int v484)]) ⟨lw_r (by decide), lw_i rfl, lw_i rfl, lw_i rfl, trivial⟩) (fun n d v h' e => r_virt (as := [.int v474, .int v479, .int v484]) (r := []) f333_485 c1002 (show zmt[153]? = some zM153 from rfl) rfl rfl rfl rfl rfl rfl e) (by first | decide | (show 3 + 1 ≤ _; omega)) (fun v h1001 σ1001 I1001 G1001 P1001 => ?_)
  obtain ⟨v485, vq485⟩ : ∃ y : Int32, v = some (.int y) := by
    obtain ⟨P, hm, ρ', rh', kP, sP⟩ := P1001
    cases List.mem_singleton.mp hm
    cases v with
    | none => exact sP.elim
    | some v =>
      obtain ⟨⟨x, y, rfl, -, -⟩, -⟩ := sP
      exact ⟨x, rfl⟩
  subst vq485
  show Wp _ _ _ _ 488 [some (.retAddr 1), some (.ref 0), some (.ref 72), some (.int i)] [.int v485] _
  obtain ⟨fs1003, c1003, df1003⟩ := dG_o I.1 G1001 c1002 (by decide)
  refine wp1 (fun nn dd => r_pop f333_488 rfl) ?_
  refine wp1 (fun n d => r_aloadn f333_489 rfl) ?_
  refine wp1 (fun n d => r_aloadnX f333_490 rfl) ?_
  refine wp1 (fun n d => r_iloadn f333_491 rfl) ?_
  refine w_iconst f333_492 (fun v492 hv492 => ?_)
  refine w_iadd f333_493 (by omega) (by omega) (fun v493 hv493 => ?_)
  refine w_xld f333_494 hX1 (by omega) (by omega) (fun v494 hv494 => ?_)
  refine wp1 (fun n d => r_aloadnX f333_495 rfl) ?_
  refine wp1 (fun n d => r_iloadn f333_496 rfl) ?_
  refine w_iconst f333_497 (fun v497 hv497 => ?_)
  refine w_iadd f333_498 (by omega) (by omega) (fun v498 hv498 => ?_)
  refine w_xld f333_499 hX1 (by omega) (by omega) (fun v499 hv499 => ?_)
  refine wp1 (fun n d => r_aloadnX f333_500 rfl) ?_
  refine wp1 (fun n d => r_iloadn f333_501 rfl) ?_
  refine w_iconst f333_502 (fun v502 hv502 => ?_)
  refine w_iadd f333_503 (by omega) (by omega) (fun v503 hv503 => ?_)
  refine w_xld f333_504 hX1 (by omega) (by omega) (fun v504 hv504 => ?_)
  obtain ⟨fs1005, c1005⟩ := hI_o I1001 (r := 72) (ci := 12) (by decide +kernel)
  refine wp_good (G 47 (by decide) cC47 rfl) (Y := zM223) (show zmt[223]? = some zM223 from rfl) I1001 (ρ := [0, v494.toInt, v499.toInt, v504.toInt]) (dK_v (kV_of rfl ⟨⟨by decide, by decide⟩, iR v494, iR v499, iR v504, trivial⟩)) (dL_of (l := [some (.ref 72), some (.int v494), some (.int v499), some (.int v504)]) ⟨lw_r (by decide), lw_i rfl, lw_i rfl, lw_i rfl, trivial⟩) (fun n d v h' e => r_virt (as := [.int v494, .int v499, .int v504]) (r := []) f333_505 c1005 (show zmt[223]? = some zM223 from rfl) rfl rfl rfl rfl rfl rfl e) (by first | decide | (show 3 + 1 ≤ _; omega)) (fun v h1004 σ1004 I1004 G1004 P1004 => ?_)
  obtain ⟨v505, vq505⟩ : ∃ y : Int32, v = some (.int y) := by
    obtain ⟨P, hm, ρ', rh', kP, sP⟩ := P1004
    cases List.mem_singleton.mp hm
    cases v with
    | none => exact sP.elim
    | some v =>
      obtain ⟨⟨x, y, rfl, -, -⟩, -⟩ := sP
      exact ⟨x, rfl⟩
  subst vq505
  show Wp _ _ _ _ 508 [some (.retAddr 1), some (.ref 0), some (.ref 72), some (.int i)] [.int v505] _
  obtain ⟨fs1006, c1006, df1006⟩ := dG_o I1001.1 G1004 c1003 (by decide)
  obtain ⟨fs1007, c1007, df1007⟩ := dG_o I1001.1 G1004 c1005 (by decide)
  have GG : dG ([] : List (Nat × Nat)) σ h σ1004 h1004 := (dG_trans (dG_sub (by decide) G1001) (dG_sub (by decide) G1004))
  refine wp1 (fun nn dd => r_pop f333_508 rfl) ?_
  refine wp1 (fun nn dd => r_goto f333_509) ?_
  exact kq _ _ I1004 ⟨JQ_dG J I GG (by decide), JRing_dG K.1 I GG (by decide), JBody_dG K.2.1 I GG (by decide), JShelf_dG K.2.2 I GG (by decide)⟩ GG.2.2
theorem lc_10 {X : aX} (G : hG X 302) (hX : X 0 = some (8, zab)) {L : Nat} {xs : Nat → Int32} (hX1 : X 1 = some (L, xs)) (hL : L ≤ 3072) {i : Int32} (i0 : 0 ≤ i.toInt) (i1 : i.toInt + 6 ≤ L) {Q : Option Value → aH → Prop} {σ : List Nat} {h : aH} (I : dI σ h) (J : JX h) (kq : ∀ (σ' : List Nat) (h' : aH), dI σ' h' → JX h' → dPh h' ≤ dPh h → Wp X 64 zM333 Q 2075 [some (.retAddr 1), some (.ref 0), some (.ref 72), some (.int i)] [] h') : Wp X 64 zM333 Q 512 [some (.retAddr 1), some (.ref 0), some (.ref 72), some (.int i)] [] h := by
  obtain ⟨J, K⟩ := J
  refine wp1 (fun n d => r_aloadn f333_512 rfl) ?_
  refine wp1 (fun n d => r_aloadnX f333_513 rfl) ?_
  refine wp1 (fun n d => r_iloadn f333_514 rfl) ?_
  refine w_iconst f333_515 (fun v515 hv515 => ?_)
  refine w_iadd f333_516 (by omega) (by omega) (fun v516 hv516 => ?_)
  refine w_xld f333_517 hX1 (by omega) (by omega) (fun v517 hv517 => ?_)
  obtain ⟨fs1002, c1002⟩ := hI_o I (r := 0) (ci := 11) (by decide +kernel)
  refine wp_goodQ (G 48 (by decide) cC48 rfl) (Y := zM154) (show zmt[154]? = some zM154 from rfl) I (ρ := [0, v517.toInt]) (dK_v (kV_of rfl ⟨⟨by decide, by decide⟩, iR v517, trivial⟩)) (dL_of (l := [some (.ref 0), some (.int v517)]) ⟨lw_r (by decide), lw_i rfl, trivial⟩) (fun n => c_154 (wS_dI I) rfl) (fun n d v h' e => r_virt (as := [.int v517]) (r := []) f333_518 c1002 (show zmt[154]? = some zM154 from rfl) rfl rfl rfl rfl rfl rfl e) (by first | decide | (show 3 + 1 ≤ _; omega)) (fun v h1001 σ1001 I1001 G1001 P1001 Qq1001 => ?_)
  obtain ⟨v518, rfl, R1001⟩ := Qq1001
  show Wp _ _ _ _ 521 [some (.retAddr 1), some (.ref 0), some (.ref 72), some (.int i)] [.int v518] _
  obtain ⟨fs1003, c1003, df1003⟩ := dG_o I.1 G1001 c1002 (by decide)
  refine wp1 (fun nn dd => r_pop f333_521 rfl) ?_
  refine wp1 (fun n d => r_aloadn f333_522 rfl) ?_
  refine wp1 (fun n d => r_aloadnX f333_523 rfl) ?_
  refine wp1 (fun n d => r_iloadn f333_524 rfl) ?_
  refine w_iconst f333_525 (fun v525 hv525 => ?_)
  refine w_iadd f333_526 (by omega) (by omega) (fun v526 hv526 => ?_)
  refine w_xld f333_527 hX1 (by omega) (by omega) (fun v527 hv527 => ?_)
  obtain ⟨fs1005, c1005⟩ := hI_o I1001 (r := 72) (ci := 12) (by decide +kernel)
  refine wp_goodQ (G 49 (by decide) cC49 rfl) (Y := zM224) (show zmt[224]? = some zM224 from rfl) I1001 (ρ := [0, v527.toInt]) (dK_v (kV_of rfl ⟨⟨by decide, by decide⟩, iR v527, trivial⟩)) (dL_of (l := [some (.ref 72), some (.int v527)]) ⟨lw_r (by decide), lw_i rfl, trivial⟩) (fun n => c_224 (wS_dI I1001) rfl) (fun n d v h' e => r_virt (as := [.int v527]) (r := []) f333_528 c1005 (show zmt[224]? = some zM224 from rfl) rfl rfl rfl rfl rfl rfl e) (by first | decide | (show 3 + 1 ≤ _; omega)) (fun v h1004 σ1004 I1004 G1004 P1004 Qq1004 => ?_)
  obtain ⟨v528, rfl, R1004⟩ := Qq1004
  show Wp _ _ _ _ 531 [some (.retAddr 1), some (.ref 0), some (.ref 72), some (.int i)] [.int v528] _
  obtain ⟨fs1006, c1006, df1006⟩ := dG_o I1001.1 G1004 c1003 (by decide)
  obtain ⟨fs1007, c1007, df1007⟩ := dG_o I1001.1 G1004 c1005 (by decide)
  have ev527 : v527 = v517 := by rw [hv527, hv517]; exact congrArg xs (by omega)
  rw [ev527] at R1004
  have Z := jx_10 K.2.1 (JP_day J.1) (vw_rf I (c := 1) (ci := 6) (f := 0) (lo := 0) (hi := 3649) (by decide +kernel) (by decide +kernel)).1 R1001 R1004
  have GG : dG ([(1, 5), (5, 0), (72, 38), (77, 0)] : List (Nat × Nat)) σ h σ1004 h1004 := (dG_trans (dG_sub (by decide) G1001) (dG_sub (by decide) G1004))
  refine wp1 (fun nn dd => r_pop f333_531 rfl) ?_
  refine wp1 (fun nn dd => r_goto f333_532) ?_
  exact kq _ _ I1004 ⟨JQ_dG J I GG (by decide), JRing_dG K.1 I GG (by decide), Z.1, JShelf_dG K.2.2 I GG (by decide)⟩ GG.2.2
theorem lc_11 {X : aX} (G : hG X 302) (hX : X 0 = some (8, zab)) {L : Nat} {xs : Nat → Int32} (hX1 : X 1 = some (L, xs)) (hL : L ≤ 3072) {i : Int32} (i0 : 0 ≤ i.toInt) (i1 : i.toInt + 6 ≤ L) {Q : Option Value → aH → Prop} {σ : List Nat} {h : aH} (I : dI σ h) (J : JX h) (kq : ∀ (σ' : List Nat) (h' : aH), dI σ' h' → JX h' → dPh h' ≤ dPh h → Wp X 64 zM333 Q 2075 [some (.retAddr 1), some (.ref 0), some (.ref 72), some (.int i)] [] h') : Wp X 64 zM333 Q 535 [some (.retAddr 1), some (.ref 0), some (.ref 72), some (.int i)] [] h := by
  obtain ⟨J, K⟩ := J
  refine wp1 (fun n d => r_aloadn f333_535 rfl) ?_
  refine wp1 (fun n d => r_aloadnX f333_536 rfl) ?_
  refine wp1 (fun n d => r_iloadn f333_537 rfl) ?_
  refine w_iconst f333_538 (fun v538 hv538 => ?_)
  refine w_iadd f333_539 (by omega) (by omega) (fun v539 hv539 => ?_)
  refine w_xld f333_540 hX1 (by omega) (by omega) (fun v540 hv540 => ?_)
  refine wp1 (fun n d => r_aloadnX f333_541 rfl) ?_
  refine wp1 (fun n d => r_iloadn f333_542 rfl) ?_
  refine w_iconst f333_543 (fun v543 hv543 => ?_)
  refine w_iadd f333_544 (by omega) (by omega) (fun v544 hv544 => ?_)
  refine w_xld f333_545 hX1 (by omega) (by omega) (fun v545 hv545 => ?_)
  refine wp1 (fun n d => r_aloadnX f333_546 rfl) ?_
  refine wp1 (fun n d => r_iloadn f333_547 rfl) ?_
  refine w_iconst f333_548 (fun v548 hv548 => ?_)
  refine w_iadd f333_549 (by omega) (by omega) (fun v549 hv549 => ?_)
  refine w_xld f333_550 hX1 (by omega) (by omega) (fun v550 hv550 => ?_)
  obtain ⟨fs1002, c1002⟩ := hI_o I (r := 0) (ci := 11) (by decide +kernel)
  refine wp_good (G 50 (by decide) cC50 rfl) (Y := zM155) (show zmt[155]? = some zM155 from rfl) I (ρ := [0, v540.toInt, v545.toInt, v550.toInt]) (dK_v (kV_of rfl ⟨⟨by decide, by decide⟩, iR v540, iR v545, iR v550, trivial⟩)) (dL_of (l := [some (.ref 0), some (.int v540), some (.int v545), some (.int v550)]) ⟨lw_r (by decide), lw_i rfl, lw_i rfl, lw_i rfl, trivial⟩) (fun n d v h' e => r_virt (as := [.int v540, .int v545, .int v550]) (r := []) f333_551 c1002 (show zmt[155]? = some zM155 from rfl) rfl rfl rfl rfl rfl rfl e) (by first | decide | (show 3 + 1 ≤ _; omega)) (fun v h1001 σ1001 I1001 G1001 P1001 => ?_)
  obtain ⟨v551, vq551⟩ : ∃ y : Int32, v = some (.int y) := by
    obtain ⟨P, hm, ρ', rh', kP, sP⟩ := P1001
    cases List.mem_singleton.mp hm
    cases v with
    | none => exact sP.elim
    | some v =>
      obtain ⟨⟨x, y, rfl, -, -⟩, -⟩ := sP
      exact ⟨x, rfl⟩
  subst vq551
  show Wp _ _ _ _ 554 [some (.retAddr 1), some (.ref 0), some (.ref 72), some (.int i)] [.int v551] _
  obtain ⟨fs1003, c1003, df1003⟩ := dG_o I.1 G1001 c1002 (by decide)
  refine wp1 (fun nn dd => r_pop f333_554 rfl) ?_
  refine wp1 (fun n d => r_aloadn f333_555 rfl) ?_
  refine wp1 (fun n d => r_aloadnX f333_556 rfl) ?_
  refine wp1 (fun n d => r_iloadn f333_557 rfl) ?_
  refine w_iconst f333_558 (fun v558 hv558 => ?_)
  refine w_iadd f333_559 (by omega) (by omega) (fun v559 hv559 => ?_)
  refine w_xld f333_560 hX1 (by omega) (by omega) (fun v560 hv560 => ?_)
  refine wp1 (fun n d => r_aloadnX f333_561 rfl) ?_
  refine wp1 (fun n d => r_iloadn f333_562 rfl) ?_
  refine w_iconst f333_563 (fun v563 hv563 => ?_)
  refine w_iadd f333_564 (by omega) (by omega) (fun v564 hv564 => ?_)
  refine w_xld f333_565 hX1 (by omega) (by omega) (fun v565 hv565 => ?_)
  refine wp1 (fun n d => r_aloadnX f333_566 rfl) ?_
  refine wp1 (fun n d => r_iloadn f333_567 rfl) ?_
  refine w_iconst f333_568 (fun v568 hv568 => ?_)
  refine w_iadd f333_569 (by omega) (by omega) (fun v569 hv569 => ?_)
  refine w_xld f333_570 hX1 (by omega) (by omega) (fun v570 hv570 => ?_)
  obtain ⟨fs1005, c1005⟩ := hI_o I1001 (r := 72) (ci := 12) (by decide +kernel)
  refine wp_good (G 51 (by decide) cC51 rfl) (Y := zM225) (show zmt[225]? = some zM225 from rfl) I1001 (ρ := [0, v560.toInt, v565.toInt, v570.toInt]) (dK_v (kV_of rfl ⟨⟨by decide, by decide⟩, iR v560, iR v565, iR v570, trivial⟩)) (dL_of (l := [some (.ref 72), some (.int v560), some (.int v565), some (.int v570)]) ⟨lw_r (by decide), lw_i rfl, lw_i rfl, lw_i rfl, trivial⟩) (fun n d v h' e => r_virt (as := [.int v560, .int v565, .int v570]) (r := []) f333_571 c1005 (show zmt[225]? = some zM225 from rfl) rfl rfl rfl rfl rfl rfl e) (by first | decide | (show 3 + 1 ≤ _; omega)) (fun v h1004 σ1004 I1004 G1004 P1004 => ?_)
  obtain ⟨v571, vq571⟩ : ∃ y : Int32, v = some (.int y) := by
    obtain ⟨P, hm, ρ', rh', kP, sP⟩ := P1004
    cases List.mem_singleton.mp hm
    cases v with
    | none => exact sP.elim
    | some v =>
      obtain ⟨⟨x, y, rfl, -, -⟩, -⟩ := sP
      exact ⟨x, rfl⟩
  subst vq571
  show Wp _ _ _ _ 574 [some (.retAddr 1), some (.ref 0), some (.ref 72), some (.int i)] [.int v571] _
  obtain ⟨fs1006, c1006, df1006⟩ := dG_o I1001.1 G1004 c1003 (by decide)
  obtain ⟨fs1007, c1007, df1007⟩ := dG_o I1001.1 G1004 c1005 (by decide)
  have GG : dG ([(1, 6), (9, 0), (10, 0), (11, 0), (12, 0), (72, 14), (83, 0), (84, 0), (85, 0), (86, 0)] : List (Nat × Nat)) σ h σ1004 h1004 := (dG_trans (dG_sub (by decide) G1001) (dG_sub (by decide) G1004))
  refine wp1 (fun nn dd => r_pop f333_574 rfl) ?_
  refine wp1 (fun nn dd => r_goto f333_575) ?_
  exact kq _ _ I1004 ⟨JQ_dG J I GG (by decide), JRing_dG K.1 I GG (by decide), JBody_dG K.2.1 I GG (by decide), JShelf_dG K.2.2 I GG (by decide)⟩ GG.2.2
theorem lc_12 {X : aX} (G : hG X 302) (hX : X 0 = some (8, zab)) {L : Nat} {xs : Nat → Int32} (hX1 : X 1 = some (L, xs)) (hL : L ≤ 3072) {i : Int32} (i0 : 0 ≤ i.toInt) (i1 : i.toInt + 6 ≤ L) {Q : Option Value → aH → Prop} {σ : List Nat} {h : aH} (I : dI σ h) (J : JX h) (kq : ∀ (σ' : List Nat) (h' : aH), dI σ' h' → JX h' → dPh h' ≤ dPh h → Wp X 64 zM333 Q 2075 [some (.retAddr 1), some (.ref 0), some (.ref 72), some (.int i)] [] h') : Wp X 64 zM333 Q 578 [some (.retAddr 1), some (.ref 0), some (.ref 72), some (.int i)] [] h := by
  obtain ⟨J, K⟩ := J
  refine wp1 (fun n d => r_aloadn f333_578 rfl) ?_
  refine wp1 (fun n d => r_aloadnX f333_579 rfl) ?_
  refine wp1 (fun n d => r_iloadn f333_580 rfl) ?_
  refine w_iconst f333_581 (fun v581 hv581 => ?_)
  refine w_iadd f333_582 (by omega) (by omega) (fun v582 hv582 => ?_)
  refine w_xld f333_583 hX1 (by omega) (by omega) (fun v583 hv583 => ?_)
  refine wp1 (fun n d => r_aloadnX f333_584 rfl) ?_
  refine wp1 (fun n d => r_iloadn f333_585 rfl) ?_
  refine w_iconst f333_586 (fun v586 hv586 => ?_)
  refine w_iadd f333_587 (by omega) (by omega) (fun v587 hv587 => ?_)
  refine w_xld f333_588 hX1 (by omega) (by omega) (fun v588 hv588 => ?_)
  refine wp1 (fun n d => r_aloadnX f333_589 rfl) ?_
  refine wp1 (fun n d => r_iloadn f333_590 rfl) ?_
  refine w_iconst f333_591 (fun v591 hv591 => ?_)
  refine w_iadd f333_592 (by omega) (by omega) (fun v592 hv592 => ?_)
  refine w_xld f333_593 hX1 (by omega) (by omega) (fun v593 hv593 => ?_)
  obtain ⟨fs1002, c1002⟩ := hI_o I (r := 0) (ci := 11) (by decide +kernel)
  refine wp_good (G 52 (by decide) cC52 rfl) (Y := zM156) (show zmt[156]? = some zM156 from rfl) I (ρ := [0, v583.toInt, v588.toInt, v593.toInt]) (dK_v (kV_of rfl ⟨⟨by decide, by decide⟩, iR v583, iR v588, iR v593, trivial⟩)) (dL_of (l := [some (.ref 0), some (.int v583), some (.int v588), some (.int v593), none]) ⟨lw_r (by decide), lw_i rfl, lw_i rfl, lw_i rfl, lw_0, trivial⟩) (fun n d v h' e => r_virt (as := [.int v583, .int v588, .int v593]) (r := []) f333_594 c1002 (show zmt[156]? = some zM156 from rfl) rfl rfl rfl rfl rfl rfl e) (by first | decide | (show 3 + 1 ≤ _; omega)) (fun v h1001 σ1001 I1001 G1001 P1001 => ?_)
  obtain ⟨v594, vq594⟩ : ∃ y : Int32, v = some (.int y) := by
    obtain ⟨P, hm, ρ', rh', kP, sP⟩ := P1001
    cases List.mem_singleton.mp hm
    cases v with
    | none => exact sP.elim
    | some v =>
      obtain ⟨⟨x, y, rfl, -, -⟩, -⟩ := sP
      exact ⟨x, rfl⟩
  subst vq594
  show Wp _ _ _ _ 597 [some (.retAddr 1), some (.ref 0), some (.ref 72), some (.int i)] [.int v594] _
  obtain ⟨fs1003, c1003, df1003⟩ := dG_o I.1 G1001 c1002 (by decide)
  refine wp1 (fun nn dd => r_pop f333_597 rfl) ?_
  refine wp1 (fun n d => r_aloadn f333_598 rfl) ?_
  refine wp1 (fun n d => r_aloadnX f333_599 rfl) ?_
  refine wp1 (fun n d => r_iloadn f333_600 rfl) ?_
  refine w_iconst f333_601 (fun v601 hv601 => ?_)
  refine w_iadd f333_602 (by omega) (by omega) (fun v602 hv602 => ?_)
  refine w_xld f333_603 hX1 (by omega) (by omega) (fun v603 hv603 => ?_)
  refine wp1 (fun n d => r_aloadnX f333_604 rfl) ?_
  refine wp1 (fun n d => r_iloadn f333_605 rfl) ?_
  refine w_iconst f333_606 (fun v606 hv606 => ?_)
  refine w_iadd f333_607 (by omega) (by omega) (fun v607 hv607 => ?_)
  refine w_xld f333_608 hX1 (by omega) (by omega) (fun v608 hv608 => ?_)
  refine wp1 (fun n d => r_aloadnX f333_609 rfl) ?_
  refine wp1 (fun n d => r_iloadn f333_610 rfl) ?_
  refine w_iconst f333_611 (fun v611 hv611 => ?_)
  refine w_iadd f333_612 (by omega) (by omega) (fun v612 hv612 => ?_)
  refine w_xld f333_613 hX1 (by omega) (by omega) (fun v613 hv613 => ?_)
  obtain ⟨fs1005, c1005⟩ := hI_o I1001 (r := 72) (ci := 12) (by decide +kernel)
  refine wp_good (G 53 (by decide) cC53 rfl) (Y := zM227) (show zmt[227]? = some zM227 from rfl) I1001 (ρ := [0, v603.toInt, v608.toInt, v613.toInt]) (dK_v (kV_of rfl ⟨⟨by decide, by decide⟩, iR v603, iR v608, iR v613, trivial⟩)) (dL_of (l := [some (.ref 72), some (.int v603), some (.int v608), some (.int v613), none]) ⟨lw_r (by decide), lw_i rfl, lw_i rfl, lw_i rfl, lw_0, trivial⟩) (fun n d v h' e => r_virt (as := [.int v603, .int v608, .int v613]) (r := []) f333_614 c1005 (show zmt[227]? = some zM227 from rfl) rfl rfl rfl rfl rfl rfl e) (by first | decide | (show 3 + 1 ≤ _; omega)) (fun v h1004 σ1004 I1004 G1004 P1004 => ?_)
  obtain ⟨v614, vq614⟩ : ∃ y : Int32, v = some (.int y) := by
    obtain ⟨P, hm, ρ', rh', kP, sP⟩ := P1004
    cases List.mem_singleton.mp hm
    cases v with
    | none => exact sP.elim
    | some v =>
      obtain ⟨⟨x, y, rfl, -, -⟩, -⟩ := sP
      exact ⟨x, rfl⟩
  subst vq614
  show Wp _ _ _ _ 617 [some (.retAddr 1), some (.ref 0), some (.ref 72), some (.int i)] [.int v614] _
  obtain ⟨fs1006, c1006, df1006⟩ := dG_o I1001.1 G1004 c1003 (by decide)
  obtain ⟨fs1007, c1007, df1007⟩ := dG_o I1001.1 G1004 c1005 (by decide)
  have GG : dG ([] : List (Nat × Nat)) σ h σ1004 h1004 := (dG_trans (dG_sub (by decide) G1001) (dG_sub (by decide) G1004))
  refine wp1 (fun nn dd => r_pop f333_617 rfl) ?_
  refine wp1 (fun nn dd => r_goto f333_618) ?_
  exact kq _ _ I1004 ⟨JQ_dG J I GG (by decide), JRing_dG K.1 I GG (by decide), JBody_dG K.2.1 I GG (by decide), JShelf_dG K.2.2 I GG (by decide)⟩ GG.2.2
theorem lc_13 {X : aX} (G : hG X 302) (hX : X 0 = some (8, zab)) {L : Nat} {xs : Nat → Int32} (hX1 : X 1 = some (L, xs)) (hL : L ≤ 3072) {i : Int32} (i0 : 0 ≤ i.toInt) (i1 : i.toInt + 6 ≤ L) {Q : Option Value → aH → Prop} {σ : List Nat} {h : aH} (I : dI σ h) (J : JX h) (kq : ∀ (σ' : List Nat) (h' : aH), dI σ' h' → JX h' → dPh h' ≤ dPh h → Wp X 64 zM333 Q 2075 [some (.retAddr 1), some (.ref 0), some (.ref 72), some (.int i)] [] h') : Wp X 64 zM333 Q 621 [some (.retAddr 1), some (.ref 0), some (.ref 72), some (.int i)] [] h := by
  obtain ⟨J, K⟩ := J
  refine wp1 (fun n d => r_aloadn f333_621 rfl) ?_
  refine wp1 (fun n d => r_aloadnX f333_622 rfl) ?_
  refine wp1 (fun n d => r_iloadn f333_623 rfl) ?_
  refine w_iconst f333_624 (fun v624 hv624 => ?_)
  refine w_iadd f333_625 (by omega) (by omega) (fun v625 hv625 => ?_)
  refine w_xld f333_626 hX1 (by omega) (by omega) (fun v626 hv626 => ?_)
  refine wp1 (fun n d => r_aloadnX f333_627 rfl) ?_
  refine wp1 (fun n d => r_iloadn f333_628 rfl) ?_
  refine w_iconst f333_629 (fun v629 hv629 => ?_)
  refine w_iadd f333_630 (by omega) (by omega) (fun v630 hv630 => ?_)
  refine w_xld f333_631 hX1 (by omega) (by omega) (fun v631 hv631 => ?_)
  refine wp1 (fun n d => r_aloadnX f333_632 rfl) ?_
  refine wp1 (fun n d => r_iloadn f333_633 rfl) ?_
  refine w_iconst f333_634 (fun v634 hv634 => ?_)
  refine w_iadd f333_635 (by omega) (by omega) (fun v635 hv635 => ?_)
  refine w_xld f333_636 hX1 (by omega) (by omega) (fun v636 hv636 => ?_)
  obtain ⟨fs1002, c1002⟩ := hI_o I (r := 0) (ci := 11) (by decide +kernel)
  refine wp_good (G 56 (by decide) cC56 rfl) (Y := zM157) (show zmt[157]? = some zM157 from rfl) I (ρ := [0, v626.toInt, v631.toInt, v636.toInt]) (dK_v (kV_of rfl ⟨⟨by decide, by decide⟩, iR v626, iR v631, iR v636, trivial⟩)) (dL_of (l := [some (.ref 0), some (.int v626), some (.int v631), some (.int v636)]) ⟨lw_r (by decide), lw_i rfl, lw_i rfl, lw_i rfl, trivial⟩) (fun n d v h' e => r_virt (as := [.int v626, .int v631, .int v636]) (r := []) f333_637 c1002 (show zmt[157]? = some zM157 from rfl) rfl rfl rfl rfl rfl rfl e) (by first | decide | (show 3 + 1 ≤ _; omega)) (fun v h1001 σ1001 I1001 G1001 P1001 => ?_)
  obtain ⟨v637, vq637⟩ : ∃ y : Int32, v = some (.int y) := by
    obtain ⟨P, hm, ρ', rh', kP, sP⟩ := P1001
    cases List.mem_singleton.mp hm
    cases v with
    | none => exact sP.elim
    | some v =>
      obtain ⟨⟨x, y, rfl, -, -⟩, -⟩ := sP
      exact ⟨x, rfl⟩
  subst vq637
  show Wp _ _ _ _ 640 [some (.retAddr 1), some (.ref 0), some (.ref 72), some (.int i)] [.int v637] _
  obtain ⟨fs1003, c1003, df1003⟩ := dG_o I.1 G1001 c1002 (by decide)
  refine wp1 (fun nn dd => r_pop f333_640 rfl) ?_
  refine wp1 (fun n d => r_aloadn f333_641 rfl) ?_
  refine wp1 (fun n d => r_aloadnX f333_642 rfl) ?_
  refine wp1 (fun n d => r_iloadn f333_643 rfl) ?_
  refine w_iconst f333_644 (fun v644 hv644 => ?_)
  refine w_iadd f333_645 (by omega) (by omega) (fun v645 hv645 => ?_)
  refine w_xld f333_646 hX1 (by omega) (by omega) (fun v646 hv646 => ?_)
  refine wp1 (fun n d => r_aloadnX f333_647 rfl) ?_
  refine wp1 (fun n d => r_iloadn f333_648 rfl) ?_
  refine w_iconst f333_649 (fun v649 hv649 => ?_)
  refine w_iadd f333_650 (by omega) (by omega) (fun v650 hv650 => ?_)
  refine w_xld f333_651 hX1 (by omega) (by omega) (fun v651 hv651 => ?_)
  refine wp1 (fun n d => r_aloadnX f333_652 rfl) ?_
  refine wp1 (fun n d => r_iloadn f333_653 rfl) ?_
  refine w_iconst f333_654 (fun v654 hv654 => ?_)
  refine w_iadd f333_655 (by omega) (by omega) (fun v655 hv655 => ?_)
  refine w_xld f333_656 hX1 (by omega) (by omega) (fun v656 hv656 => ?_)
  obtain ⟨fs1005, c1005⟩ := hI_o I1001 (r := 72) (ci := 12) (by decide +kernel)
  refine wp_good (G 57 (by decide) cC57 rfl) (Y := zM230) (show zmt[230]? = some zM230 from rfl) I1001 (ρ := [0, v646.toInt, v651.toInt, v656.toInt]) (dK_v (kV_of rfl ⟨⟨by decide, by decide⟩, iR v646, iR v651, iR v656, trivial⟩)) (dL_of (l := [some (.ref 72), some (.int v646), some (.int v651), some (.int v656)]) ⟨lw_r (by decide), lw_i rfl, lw_i rfl, lw_i rfl, trivial⟩) (fun n d v h' e => r_virt (as := [.int v646, .int v651, .int v656]) (r := []) f333_657 c1005 (show zmt[230]? = some zM230 from rfl) rfl rfl rfl rfl rfl rfl e) (by first | decide | (show 3 + 1 ≤ _; omega)) (fun v h1004 σ1004 I1004 G1004 P1004 => ?_)
  obtain ⟨v657, vq657⟩ : ∃ y : Int32, v = some (.int y) := by
    obtain ⟨P, hm, ρ', rh', kP, sP⟩ := P1004
    cases List.mem_singleton.mp hm
    cases v with
    | none => exact sP.elim
    | some v =>
      obtain ⟨⟨x, y, rfl, -, -⟩, -⟩ := sP
      exact ⟨x, rfl⟩
  subst vq657
  show Wp _ _ _ _ 660 [some (.retAddr 1), some (.ref 0), some (.ref 72), some (.int i)] [.int v657] _
  obtain ⟨fs1006, c1006, df1006⟩ := dG_o I1001.1 G1004 c1003 (by decide)
  obtain ⟨fs1007, c1007, df1007⟩ := dG_o I1001.1 G1004 c1005 (by decide)
  have GG : dG ([(16, 1), (17, 0), (18, 0), (19, 0), (20, 0), (21, 0), (72, 19), (72, 38), (87, 0), (88, 0), (89, 0), (90, 0)] : List (Nat × Nat)) σ h σ1004 h1004 := (dG_trans (dG_sub (by decide) G1001) (dG_sub (by decide) G1004))
  refine wp1 (fun nn dd => r_pop f333_660 rfl) ?_
  refine wp1 (fun nn dd => r_goto f333_661) ?_
  exact kq _ _ I1004 ⟨JQ_dG J I GG (by decide), JRing_dG K.1 I GG (by decide), JBody_dG K.2.1 I GG (by decide), JShelf_dG K.2.2 I GG (by decide)⟩ GG.2.2
theorem lc_14 {X : aX} (G : hG X 302) (hX : X 0 = some (8, zab)) {L : Nat} {xs : Nat → Int32} (hX1 : X 1 = some (L, xs)) (hL : L ≤ 3072) {i : Int32} (i0 : 0 ≤ i.toInt) (i1 : i.toInt + 6 ≤ L) {Q : Option Value → aH → Prop} {σ : List Nat} {h : aH} (I : dI σ h) (J : JX h) (kq : ∀ (σ' : List Nat) (h' : aH), dI σ' h' → JX h' → dPh h' ≤ dPh h → Wp X 64 zM333 Q 2075 [some (.retAddr 1), some (.ref 0), some (.ref 72), some (.int i)] [] h') : Wp X 64 zM333 Q 664 [some (.retAddr 1), some (.ref 0), some (.ref 72), some (.int i)] [] h := by
  obtain ⟨J, K⟩ := J
  obtain ⟨fs0, c0⟩ := hI_o I (r := 0) (ci := 11) (by decide +kernel)
  obtain ⟨g, g', c1, c2, e⟩ := J.2.2.1
  refine wp1 (fun n d => r_aloadn f333_664 rfl) ?_
  refine wp1 (fun n d => r_aloadnX f333_665 rfl) ?_
  refine wp1 (fun n d => r_iloadn f333_666 rfl) ?_
  refine w_iconst f333_667 (fun v667 hv667 => ?_)
  refine w_iadd f333_668 (by omega) (by omega) (fun v668 hv668 => ?_)
  refine w_xld f333_669 hX1 (by omega) (by omega) (fun v669 hv669 => ?_)
  refine wp1 (fun n d => r_aloadnX f333_670 rfl) ?_
  refine wp1 (fun n d => r_iloadn f333_671 rfl) ?_
  refine w_iconst f333_672 (fun v672 hv672 => ?_)
  refine w_iadd f333_673 (by omega) (by omega) (fun v673 hv673 => ?_)
  refine w_xld f333_674 hX1 (by omega) (by omega) (fun v674 hv674 => ?_)
  refine wp_in (lv := 2) (Y := zM158) (cell_158 (x := v669) (y := v674) I c1) (fun n d v h' e => r_virt (as := [.int v669, .int v674]) (r := []) f333_675 c0 (show zmt[158]? = some zM158 from rfl) rfl rfl rfl rfl rfl rfl e) (by decide) ?_
  rintro v' h1 ⟨I1, G1, r1, g1, rfl, d1, k1⟩
  have d2 := dG_a I.1 G1 c2 (by decide) rfl
  show Wp _ _ _ _ 678 [some (.retAddr 1), some (.ref 0), some (.ref 72), some (.int i)] [.int r1] _
  refine wp1 (fun nn dd => r_pop f333_678 rfl) ?_
  obtain ⟨fs72, c72⟩ := hI_o I1 (r := 72) (ci := 12) (by decide +kernel)
  refine wp1 (fun n d => r_aloadn f333_679 rfl) ?_
  refine wp1 (fun n d => r_aloadnX f333_680 rfl) ?_
  refine wp1 (fun n d => r_iloadn f333_681 rfl) ?_
  refine w_iconst f333_682 (fun v682 hv682 => ?_)
  refine w_iadd f333_683 (by omega) (by omega) (fun v683 hv683 => ?_)
  refine w_xld f333_684 hX1 (by omega) (by omega) (fun v684 hv684 => ?_)
  refine wp1 (fun n d => r_aloadnX f333_685 rfl) ?_
  refine wp1 (fun n d => r_iloadn f333_686 rfl) ?_
  refine w_iconst f333_687 (fun v687 hv687 => ?_)
  refine w_iadd f333_688 (by omega) (by omega) (fun v688 hv688 => ?_)
  refine w_xld f333_689 hX1 (by omega) (by omega) (fun v689 hv689 => ?_)
  refine wp_in (lv := 2) (Y := zM231) (cell_231 (x := v684) (y := v689) I1 d2) (fun n d v h' e => r_virt (as := [.int v684, .int v689]) (r := []) f333_690 c72 (show zmt[231]? = some zM231 from rfl) rfl rfl rfl rfl rfl rfl e) (by decide) ?_
  have ev684 : v684 = v669 := by rw [hv684, hv669]; exact congrArg xs (by omega)
  have ev689 : v689 = v674 := by rw [hv689, hv674]; exact congrArg xs (by omega)
  rintro v' h2 ⟨I2, G2, r2, g2, rfl, d3, k2⟩
  have d4 := dG_a I1.1 G2 d1 (by decide) rfl
  rw [ev684, ev689] at k2
  obtain ⟨z1, z2⟩ := clf_eq k1 k2 e
  show Wp _ _ _ _ 693 [some (.retAddr 1), some (.ref 0), some (.ref 72), some (.int i)] [.int r2] _
  have GG : dG ([(22, 0), (91, 0)] : List (Nat × Nat)) σ h σ h2 := dG_trans (dG_sub (by decide) G1) (dG_sub (by decide) G2)
  refine wp1 (fun nn dd => r_pop f333_693 rfl) ?_
  refine wp1 (fun nn dd => r_goto f333_694) ?_
  exact kq σ h2 I2 ⟨⟨JP_dG J.1 I GG (by decide), JF_dG J.2.1 I GG (by decide), ⟨g1, g2, d4, d3, z2⟩, JA_dG J.2.2.2.1 I GG (by decide), JA_dG J.2.2.2.2 I GG (by decide)⟩, JRing_dG K.1 I GG (by decide), JBody_dG K.2.1 I GG (by decide), JShelf_dG K.2.2 I GG (by decide)⟩ GG.2.2
theorem lc_15 {X : aX} (G : hG X 302) (hX : X 0 = some (8, zab)) {L : Nat} {xs : Nat → Int32} (hX1 : X 1 = some (L, xs)) (hL : L ≤ 3072) {i : Int32} (i0 : 0 ≤ i.toInt) (i1 : i.toInt + 6 ≤ L) {Q : Option Value → aH → Prop} {σ : List Nat} {h : aH} (I : dI σ h) (J : JX h) (kq : ∀ (σ' : List Nat) (h' : aH), dI σ' h' → JX h' → dPh h' ≤ dPh h → Wp X 64 zM333 Q 2075 [some (.retAddr 1), some (.ref 0), some (.ref 72), some (.int i)] [] h') : Wp X 64 zM333 Q 697 [some (.retAddr 1), some (.ref 0), some (.ref 72), some (.int i)] [] h := by
  obtain ⟨J, K⟩ := J
  refine wp1 (fun n d => r_aloadn f333_697 rfl) ?_
  refine wp1 (fun n d => r_aloadnX f333_698 rfl) ?_
  refine wp1 (fun n d => r_iloadn f333_699 rfl) ?_
  refine w_iconst f333_700 (fun v700 hv700 => ?_)
  refine w_iadd f333_701 (by omega) (by omega) (fun v701 hv701 => ?_)
  refine w_xld f333_702 hX1 (by omega) (by omega) (fun v702 hv702 => ?_)
  refine wp1 (fun n d => r_aloadnX f333_703 rfl) ?_
  refine wp1 (fun n d => r_iloadn f333_704 rfl) ?_
  refine w_iconst f333_705 (fun v705 hv705 => ?_)
  refine w_iadd f333_706 (by omega) (by omega) (fun v706 hv706 => ?_)
  refine w_xld f333_707 hX1 (by omega) (by omega) (fun v707 hv707 => ?_)
  refine wp1 (fun n d => r_aloadnX f333_708 rfl) ?_
  refine wp1 (fun n d => r_iloadn f333_709 rfl) ?_
  refine w_iconst f333_710 (fun v710 hv710 => ?_)
  refine w_iadd f333_711 (by omega) (by omega) (fun v711 hv711 => ?_)
  refine w_xld f333_712 hX1 (by omega) (by omega) (fun v712 hv712 => ?_)
  obtain ⟨fs1002, c1002⟩ := hI_o I (r := 0) (ci := 11) (by decide +kernel)
  refine wp_good (G 60 (by decide) cC60 rfl) (Y := zM159) (show zmt[159]? = some zM159 from rfl) I (ρ := [0, v702.toInt, v707.toInt, v712.toInt]) (dK_v (kV_of rfl ⟨⟨by decide, by decide⟩, iR v702, iR v707, iR v712, trivial⟩)) (dL_of (l := [some (.ref 0), some (.int v702), some (.int v707), some (.int v712), none, none, none, none]) ⟨lw_r (by decide), lw_i rfl, lw_i rfl, lw_i rfl, lw_0, lw_0, lw_0, lw_0, trivial⟩) (fun n d v h' e => r_virt (as := [.int v702, .int v707, .int v712]) (r := []) f333_713 c1002 (show zmt[159]? = some zM159 from rfl) rfl rfl rfl rfl rfl rfl e) (by first | decide | (show 2 + 1 ≤ _; omega)) (fun v h1001 σ1001 I1001 G1001 P1001 => ?_)
  obtain ⟨v713, vq713⟩ : ∃ y : Int32, v = some (.int y) := by
    obtain ⟨P, hm, ρ', rh', kP, sP⟩ := P1001
    cases List.mem_singleton.mp hm
    cases v with
    | none => exact sP.elim
    | some v =>
      obtain ⟨⟨x, y, rfl, -, -⟩, -⟩ := sP
      exact ⟨x, rfl⟩
  subst vq713
  show Wp _ _ _ _ 716 [some (.retAddr 1), some (.ref 0), some (.ref 72), some (.int i)] [.int v713] _
  obtain ⟨fs1003, c1003, df1003⟩ := dG_o I.1 G1001 c1002 (by decide)
  refine wp1 (fun nn dd => r_pop f333_716 rfl) ?_
  refine wp1 (fun n d => r_aloadn f333_717 rfl) ?_
  refine wp1 (fun n d => r_aloadnX f333_718 rfl) ?_
  refine wp1 (fun n d => r_iloadn f333_719 rfl) ?_
  refine w_iconst f333_720 (fun v720 hv720 => ?_)
  refine w_iadd f333_721 (by omega) (by omega) (fun v721 hv721 => ?_)
  refine w_xld f333_722 hX1 (by omega) (by omega) (fun v722 hv722 => ?_)
  refine wp1 (fun n d => r_aloadnX f333_723 rfl) ?_
  refine wp1 (fun n d => r_iloadn f333_724 rfl) ?_
  refine w_iconst f333_725 (fun v725 hv725 => ?_)
  refine w_iadd f333_726 (by omega) (by omega) (fun v726 hv726 => ?_)
  refine w_xld f333_727 hX1 (by omega) (by omega) (fun v727 hv727 => ?_)
  refine wp1 (fun n d => r_aloadnX f333_728 rfl) ?_
  refine wp1 (fun n d => r_iloadn f333_729 rfl) ?_
  refine w_iconst f333_730 (fun v730 hv730 => ?_)
  refine w_iadd f333_731 (by omega) (by omega) (fun v731 hv731 => ?_)
  refine w_xld f333_732 hX1 (by omega) (by omega) (fun v732 hv732 => ?_)
  obtain ⟨fs1005, c1005⟩ := hI_o I1001 (r := 72) (ci := 12) (by decide +kernel)
  refine wp_good (G 61 (by decide) cC61 rfl) (Y := zM232) (show zmt[232]? = some zM232 from rfl) I1001 (ρ := [0, v722.toInt, v727.toInt, v732.toInt]) (dK_v (kV_of rfl ⟨⟨by decide, by decide⟩, iR v722, iR v727, iR v732, trivial⟩)) (dL_of (l := [some (.ref 72), some (.int v722), some (.int v727), some (.int v732)]) ⟨lw_r (by decide), lw_i rfl, lw_i rfl, lw_i rfl, trivial⟩) (fun n d v h' e => r_virt (as := [.int v722, .int v727, .int v732]) (r := []) f333_733 c1005 (show zmt[232]? = some zM232 from rfl) rfl rfl rfl rfl rfl rfl e) (by first | decide | (show 2 + 1 ≤ _; omega)) (fun v h1004 σ1004 I1004 G1004 P1004 => ?_)
  obtain ⟨v733, vq733⟩ : ∃ y : Int32, v = some (.int y) := by
    obtain ⟨P, hm, ρ', rh', kP, sP⟩ := P1004
    cases List.mem_singleton.mp hm
    cases v with
    | none => exact sP.elim
    | some v =>
      obtain ⟨⟨x, y, rfl, -, -⟩, -⟩ := sP
      exact ⟨x, rfl⟩
  subst vq733
  show Wp _ _ _ _ 736 [some (.retAddr 1), some (.ref 0), some (.ref 72), some (.int i)] [.int v733] _
  obtain ⟨fs1006, c1006, df1006⟩ := dG_o I1001.1 G1004 c1003 (by decide)
  obtain ⟨fs1007, c1007, df1007⟩ := dG_o I1001.1 G1004 c1005 (by decide)
  have GG : dG ([(16, 2), (23, 0), (24, 0), (25, 0), (26, 0), (72, 25), (72, 38), (92, 0), (93, 0), (94, 0), (95, 0), (96, 0), (97, 0)] : List (Nat × Nat)) σ h σ1004 h1004 := (dG_trans (dG_sub (by decide) G1001) (dG_sub (by decide) G1004))
  refine wp1 (fun nn dd => r_pop f333_736 rfl) ?_
  refine wp1 (fun nn dd => r_goto f333_737) ?_
  exact kq _ _ I1004 ⟨JQ_dG J I GG (by decide), JRing_dG K.1 I GG (by decide), JBody_dG K.2.1 I GG (by decide), JShelf_dG K.2.2 I GG (by decide)⟩ GG.2.2
theorem lc_16 {X : aX} (G : hG X 302) (hX : X 0 = some (8, zab)) {L : Nat} {xs : Nat → Int32} (hX1 : X 1 = some (L, xs)) (hL : L ≤ 3072) {i : Int32} (i0 : 0 ≤ i.toInt) (i1 : i.toInt + 6 ≤ L) {Q : Option Value → aH → Prop} {σ : List Nat} {h : aH} (I : dI σ h) (J : JX h) (kq : ∀ (σ' : List Nat) (h' : aH), dI σ' h' → JX h' → dPh h' ≤ dPh h → Wp X 64 zM333 Q 2075 [some (.retAddr 1), some (.ref 0), some (.ref 72), some (.int i)] [] h') : Wp X 64 zM333 Q 740 [some (.retAddr 1), some (.ref 0), some (.ref 72), some (.int i)] [] h := by
  obtain ⟨J, K⟩ := J
  refine wp1 (fun n d => r_aloadn f333_740 rfl) ?_
  refine wp1 (fun n d => r_aloadnX f333_741 rfl) ?_
  refine wp1 (fun n d => r_iloadn f333_742 rfl) ?_
  refine w_iconst f333_743 (fun v743 hv743 => ?_)
  refine w_iadd f333_744 (by omega) (by omega) (fun v744 hv744 => ?_)
  refine w_xld f333_745 hX1 (by omega) (by omega) (fun v745 hv745 => ?_)
  refine wp1 (fun n d => r_aloadnX f333_746 rfl) ?_
  refine wp1 (fun n d => r_iloadn f333_747 rfl) ?_
  refine w_iconst f333_748 (fun v748 hv748 => ?_)
  refine w_iadd f333_749 (by omega) (by omega) (fun v749 hv749 => ?_)
  refine w_xld f333_750 hX1 (by omega) (by omega) (fun v750 hv750 => ?_)
  refine wp1 (fun n d => r_aloadnX f333_751 rfl) ?_
  refine wp1 (fun n d => r_iloadn f333_752 rfl) ?_
  refine w_iconst f333_753 (fun v753 hv753 => ?_)
  refine w_iadd f333_754 (by omega) (by omega) (fun v754 hv754 => ?_)
  refine w_xld f333_755 hX1 (by omega) (by omega) (fun v755 hv755 => ?_)
  refine wp1 (fun n d => r_aloadnX f333_756 rfl) ?_
  refine wp1 (fun n d => r_iloadn f333_757 rfl) ?_
  refine w_iconst f333_758 (fun v758 hv758 => ?_)
  refine w_iadd f333_759 (by omega) (by omega) (fun v759 hv759 => ?_)
  refine w_xld f333_760 hX1 (by omega) (by omega) (fun v760 hv760 => ?_)
  refine wp1 (fun n d => r_aloadnX f333_761 rfl) ?_
  refine wp1 (fun n d => r_iloadn f333_762 rfl) ?_
  refine w_iconst f333_763 (fun v763 hv763 => ?_)
  refine w_iadd f333_764 (by omega) (by omega) (fun v764 hv764 => ?_)
  refine w_xld f333_765 hX1 (by omega) (by omega) (fun v765 hv765 => ?_)
  obtain ⟨fs1002, c1002⟩ := hI_o I (r := 0) (ci := 11) (by decide +kernel)
  refine wp_good (G 65 (by decide) cC65 rfl) (Y := zM160) (show zmt[160]? = some zM160 from rfl) I (ρ := [0, v745.toInt, v750.toInt, v755.toInt, v760.toInt, v765.toInt]) (dK_v (kV_of rfl ⟨⟨by decide, by decide⟩, iR v745, iR v750, iR v755, iR v760, iR v765, trivial⟩)) (dL_of (l := [some (.ref 0), some (.int v745), some (.int v750), some (.int v755), some (.int v760), some (.int v765), none, none]) ⟨lw_r (by decide), lw_i rfl, lw_i rfl, lw_i rfl, lw_i rfl, lw_i rfl, lw_0, lw_0, trivial⟩) (fun n d v h' e => r_virt (as := [.int v745, .int v750, .int v755, .int v760, .int v765]) (r := []) f333_766 c1002 (show zmt[160]? = some zM160 from rfl) rfl rfl rfl rfl rfl rfl e) (by first | decide | (show 9 + 1 ≤ _; omega)) (fun v h1001 σ1001 I1001 G1001 P1001 => ?_)
  obtain ⟨v766, vq766⟩ : ∃ y : Int32, v = some (.int y) := by
    obtain ⟨P, hm, ρ', rh', kP, sP⟩ := P1001
    cases List.mem_singleton.mp hm
    cases v with
    | none => exact sP.elim
    | some v =>
      obtain ⟨⟨x, y, rfl, -, -⟩, -⟩ := sP
      exact ⟨x, rfl⟩
  subst vq766
  show Wp _ _ _ _ 769 [some (.retAddr 1), some (.ref 0), some (.ref 72), some (.int i)] [.int v766] _
  obtain ⟨fs1003, c1003, df1003⟩ := dG_o I.1 G1001 c1002 (by decide)
  refine wp1 (fun nn dd => r_pop f333_769 rfl) ?_
  refine wp1 (fun n d => r_aloadn f333_770 rfl) ?_
  refine wp1 (fun n d => r_aloadnX f333_771 rfl) ?_
  refine wp1 (fun n d => r_iloadn f333_772 rfl) ?_
  refine w_iconst f333_773 (fun v773 hv773 => ?_)
  refine w_iadd f333_774 (by omega) (by omega) (fun v774 hv774 => ?_)
  refine w_xld f333_775 hX1 (by omega) (by omega) (fun v775 hv775 => ?_)
  refine wp1 (fun n d => r_aloadnX f333_776 rfl) ?_
  refine wp1 (fun n d => r_iloadn f333_777 rfl) ?_
  refine w_iconst f333_778 (fun v778 hv778 => ?_)
  refine w_iadd f333_779 (by omega) (by omega) (fun v779 hv779 => ?_)
  refine w_xld f333_780 hX1 (by omega) (by omega) (fun v780 hv780 => ?_)
  refine wp1 (fun n d => r_aloadnX f333_781 rfl) ?_
  refine wp1 (fun n d => r_iloadn f333_782 rfl) ?_
  refine w_iconst f333_783 (fun v783 hv783 => ?_)
  refine w_iadd f333_784 (by omega) (by omega) (fun v784 hv784 => ?_)
  refine w_xld f333_785 hX1 (by omega) (by omega) (fun v785 hv785 => ?_)
  refine wp1 (fun n d => r_aloadnX f333_786 rfl) ?_
  refine wp1 (fun n d => r_iloadn f333_787 rfl) ?_
  refine w_iconst f333_788 (fun v788 hv788 => ?_)
  refine w_iadd f333_789 (by omega) (by omega) (fun v789 hv789 => ?_)
  refine w_xld f333_790 hX1 (by omega) (by omega) (fun v790 hv790 => ?_)
  refine wp1 (fun n d => r_aloadnX f333_791 rfl) ?_
  refine wp1 (fun n d => r_iloadn f333_792 rfl) ?_
  refine w_iconst f333_793 (fun v793 hv793 => ?_)
  refine w_iadd f333_794 (by omega) (by omega) (fun v794 hv794 => ?_)
  refine w_xld f333_795 hX1 (by omega) (by omega) (fun v795 hv795 => ?_)
  obtain ⟨fs1005, c1005⟩ := hI_o I1001 (r := 72) (ci := 12) (by decide +kernel)
  refine wp_good (G 73 (by decide) cC73 rfl) (Y := zM242) (show zmt[242]? = some zM242 from rfl) I1001 (ρ := [0, v775.toInt, v780.toInt, v785.toInt, v790.toInt, v795.toInt]) (dK_v (kV_of rfl ⟨⟨by decide, by decide⟩, iR v775, iR v780, iR v785, iR v790, iR v795, trivial⟩)) (dL_of (l := [some (.ref 72), some (.int v775), some (.int v780), some (.int v785), some (.int v790), some (.int v795), none]) ⟨lw_r (by decide), lw_i rfl, lw_i rfl, lw_i rfl, lw_i rfl, lw_i rfl, lw_0, trivial⟩) (fun n d v h' e => r_virt (as := [.int v775, .int v780, .int v785, .int v790, .int v795]) (r := []) f333_796 c1005 (show zmt[242]? = some zM242 from rfl) rfl rfl rfl rfl rfl rfl e) (by first | decide | (show 5 + 1 ≤ _; omega)) (fun v h1004 σ1004 I1004 G1004 P1004 => ?_)
  obtain ⟨v796, vq796⟩ : ∃ y : Int32, v = some (.int y) := by
    obtain ⟨P, hm, ρ', rh', kP, sP⟩ := P1004
    cases List.mem_singleton.mp hm
    cases v with
    | none => exact sP.elim
    | some v =>
      obtain ⟨⟨x, y, rfl, -, -⟩, -⟩ := sP
      exact ⟨x, rfl⟩
  subst vq796
  show Wp _ _ _ _ 799 [some (.retAddr 1), some (.ref 0), some (.ref 72), some (.int i)] [.int v796] _
  obtain ⟨fs1006, c1006, df1006⟩ := dG_o I1001.1 G1004 c1003 (by decide)
  obtain ⟨fs1007, c1007, df1007⟩ := dG_o I1001.1 G1004 c1005 (by decide)
  have GG : dG ([(42, 0), (146, 3), (146, 4), (146, 5), (147, 0), (148, 0), (149, 0), (150, 0), (151, 0), (152, 0), (153, 0), (72, 38), (72, 39), (103, 0), (104, 0), (105, 0), (106, 0), (107, 0), (108, 0), (109, 0), (110, 0)] : List (Nat × Nat)) σ h σ1004 h1004 := (dG_trans (dG_sub (by decide) G1001) (dG_sub (by decide) G1004))
  refine wp1 (fun nn dd => r_pop f333_799 rfl) ?_
  refine wp1 (fun nn dd => r_goto f333_800) ?_
  exact kq _ _ I1004 ⟨JQ_dG J I GG (by decide), JRing_dG K.1 I GG (by decide), JBody_dG K.2.1 I GG (by decide), JShelf_dG K.2.2 I GG (by decide)⟩ GG.2.2
