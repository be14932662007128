section
/-! instructions of the law, by program -/
theorem zdT_dl_413 : zdch code [(413, (.iaload, 1)), (414, (.aload_n 0, 1)), (415, (.iload_n 3, 1)), (416, (.iconst 2, 1)), (417, (.iadd, 1)), (418, (.iaload, 1)), (419, (.aload_n 0, 1)), (420, (.iload_n 3, 1)), (421, (.iconst 3, 1)), (422, (.iadd, 1)), (423, (.iaload, 1)), (424, (.invokevirtual 49, 3)), (427, (.pop, 1)), (428, (.aload_n 2, 1)), (429, (.aload_n 0, 1)), (430, (.iload_n 3, 1)), (431, (.iconst 1, 1)), (432, (.iadd, 1)), (433, (.iaload, 1)), (434, (.aload_n 0, 1)), (435, (.iload_n 3, 1)), (436, (.iconst 2, 1)), (437, (.iadd, 1)), (438, (.iaload, 1)), (439, (.aload_n 0, 1))] = true := by decide +kernel
theorem dl_413 : decode code 413 = .ok (.iaload, 1) := zdcg 0 zdT_dl_413 rfl
theorem dl_414 : decode code 414 = .ok (.aload_n 0, 1) := zdcg 1 zdT_dl_413 rfl
theorem dl_415 : decode code 415 = .ok (.iload_n 3, 1) := zdcg 2 zdT_dl_413 rfl
theorem dl_416 : decode code 416 = .ok (.iconst 2, 1) := zdcg 3 zdT_dl_413 rfl
theorem dl_417 : decode code 417 = .ok (.iadd, 1) := zdcg 4 zdT_dl_413 rfl
theorem dl_418 : decode code 418 = .ok (.iaload, 1) := zdcg 5 zdT_dl_413 rfl
theorem dl_419 : decode code 419 = .ok (.aload_n 0, 1) := zdcg 6 zdT_dl_413 rfl
theorem dl_420 : decode code 420 = .ok (.iload_n 3, 1) := zdcg 7 zdT_dl_413 rfl
theorem dl_421 : decode code 421 = .ok (.iconst 3, 1) := zdcg 8 zdT_dl_413 rfl
theorem dl_422 : decode code 422 = .ok (.iadd, 1) := zdcg 9 zdT_dl_413 rfl
theorem dl_423 : decode code 423 = .ok (.iaload, 1) := zdcg 10 zdT_dl_413 rfl
theorem dl_424 : decode code 424 = .ok (.invokevirtual 49, 3) := zdcg 11 zdT_dl_413 rfl
theorem dl_427 : decode code 427 = .ok (.pop, 1) := zdcg 12 zdT_dl_413 rfl
theorem dl_428 : decode code 428 = .ok (.aload_n 2, 1) := zdcg 13 zdT_dl_413 rfl
theorem dl_429 : decode code 429 = .ok (.aload_n 0, 1) := zdcg 14 zdT_dl_413 rfl
theorem dl_430 : decode code 430 = .ok (.iload_n 3, 1) := zdcg 15 zdT_dl_413 rfl
theorem dl_431 : decode code 431 = .ok (.iconst 1, 1) := zdcg 16 zdT_dl_413 rfl
theorem dl_432 : decode code 432 = .ok (.iadd, 1) := zdcg 17 zdT_dl_413 rfl
theorem dl_433 : decode code 433 = .ok (.iaload, 1) := zdcg 18 zdT_dl_413 rfl
theorem dl_434 : decode code 434 = .ok (.aload_n 0, 1) := zdcg 19 zdT_dl_413 rfl
theorem dl_435 : decode code 435 = .ok (.iload_n 3, 1) := zdcg 20 zdT_dl_413 rfl
theorem dl_436 : decode code 436 = .ok (.iconst 2, 1) := zdcg 21 zdT_dl_413 rfl
theorem dl_437 : decode code 437 = .ok (.iadd, 1) := zdcg 22 zdT_dl_413 rfl
theorem dl_438 : decode code 438 = .ok (.iaload, 1) := zdcg 23 zdT_dl_413 rfl
theorem dl_439 : decode code 439 = .ok (.aload_n 0, 1) := zdcg 24 zdT_dl_413 rfl
theorem zdT_dl_440 : zdch code [(440, (.iload_n 3, 1)), (441, (.iconst 3, 1)), (442, (.iadd, 1)), (443, (.iaload, 1)), (444, (.invokevirtual 53, 3)), (447, (.pop, 1)), (448, (.goto 538, 3)), (451, (.aload_n 1, 1)), (452, (.aload_n 0, 1)), (453, (.iload_n 3, 1)), (454, (.iconst 1, 1)), (455, (.iadd, 1)), (456, (.iaload, 1)), (457, (.aload_n 0, 1)), (458, (.iload_n 3, 1)), (459, (.iconst 2, 1)), (460, (.iadd, 1)), (461, (.iaload, 1)), (462, (.invokevirtual 54, 3)), (465, (.pop, 1)), (466, (.aload_n 2, 1)), (467, (.aload_n 0, 1)), (468, (.iload_n 3, 1)), (469, (.iconst 1, 1)), (470, (.iadd, 1))] = true := by decide +kernel
theorem dl_440 : decode code 440 = .ok (.iload_n 3, 1) := zdcg 0 zdT_dl_440 rfl
theorem dl_441 : decode code 441 = .ok (.iconst 3, 1) := zdcg 1 zdT_dl_440 rfl
theorem dl_442 : decode code 442 = .ok (.iadd, 1) := zdcg 2 zdT_dl_440 rfl
theorem dl_443 : decode code 443 = .ok (.iaload, 1) := zdcg 3 zdT_dl_440 rfl
theorem dl_444 : decode code 444 = .ok (.invokevirtual 53, 3) := zdcg 4 zdT_dl_440 rfl
theorem dl_447 : decode code 447 = .ok (.pop, 1) := zdcg 5 zdT_dl_440 rfl
theorem dl_448 : decode code 448 = .ok (.goto 538, 3) := zdcg 6 zdT_dl_440 rfl
theorem dl_451 : decode code 451 = .ok (.aload_n 1, 1) := zdcg 7 zdT_dl_440 rfl
theorem dl_452 : decode code 452 = .ok (.aload_n 0, 1) := zdcg 8 zdT_dl_440 rfl
theorem dl_453 : decode code 453 = .ok (.iload_n 3, 1) := zdcg 9 zdT_dl_440 rfl
theorem dl_454 : decode code 454 = .ok (.iconst 1, 1) := zdcg 10 zdT_dl_440 rfl
theorem dl_455 : decode code 455 = .ok (.iadd, 1) := zdcg 11 zdT_dl_440 rfl
theorem dl_456 : decode code 456 = .ok (.iaload, 1) := zdcg 12 zdT_dl_440 rfl
theorem dl_457 : decode code 457 = .ok (.aload_n 0, 1) := zdcg 13 zdT_dl_440 rfl
theorem dl_458 : decode code 458 = .ok (.iload_n 3, 1) := zdcg 14 zdT_dl_440 rfl
theorem dl_459 : decode code 459 = .ok (.iconst 2, 1) := zdcg 15 zdT_dl_440 rfl
theorem dl_460 : decode code 460 = .ok (.iadd, 1) := zdcg 16 zdT_dl_440 rfl
theorem dl_461 : decode code 461 = .ok (.iaload, 1) := zdcg 17 zdT_dl_440 rfl
theorem dl_462 : decode code 462 = .ok (.invokevirtual 54, 3) := zdcg 18 zdT_dl_440 rfl
theorem dl_465 : decode code 465 = .ok (.pop, 1) := zdcg 19 zdT_dl_440 rfl
theorem dl_466 : decode code 466 = .ok (.aload_n 2, 1) := zdcg 20 zdT_dl_440 rfl
theorem dl_467 : decode code 467 = .ok (.aload_n 0, 1) := zdcg 21 zdT_dl_440 rfl
theorem dl_468 : decode code 468 = .ok (.iload_n 3, 1) := zdcg 22 zdT_dl_440 rfl
theorem dl_469 : decode code 469 = .ok (.iconst 1, 1) := zdcg 23 zdT_dl_440 rfl
theorem dl_470 : decode code 470 = .ok (.iadd, 1) := zdcg 24 zdT_dl_440 rfl
theorem zdT_dl_471 : zdch code [(471, (.iaload, 1)), (472, (.aload_n 0, 1)), (473, (.iload_n 3, 1)), (474, (.iconst 2, 1)), (475, (.iadd, 1)), (476, (.iaload, 1)), (477, (.invokevirtual 57, 3)), (480, (.pop, 1)), (481, (.goto 505, 3)), (484, (.aload_n 1, 1)), (485, (.aload_n 0, 1)), (486, (.iload_n 3, 1)), (487, (.iconst 1, 1)), (488, (.iadd, 1)), (489, (.iaload, 1)), (490, (.aload_n 0, 1)), (491, (.iload_n 3, 1)), (492, (.iconst 2, 1)), (493, (.iadd, 1)), (494, (.iaload, 1)), (495, (.invokevirtual 58, 3)), (498, (.pop, 1)), (499, (.aload_n 2, 1)), (500, (.aload_n 0, 1)), (501, (.iload_n 3, 1))] = true := by decide +kernel
theorem dl_471 : decode code 471 = .ok (.iaload, 1) := zdcg 0 zdT_dl_471 rfl
theorem dl_472 : decode code 472 = .ok (.aload_n 0, 1) := zdcg 1 zdT_dl_471 rfl
theorem dl_473 : decode code 473 = .ok (.iload_n 3, 1) := zdcg 2 zdT_dl_471 rfl
theorem dl_474 : decode code 474 = .ok (.iconst 2, 1) := zdcg 3 zdT_dl_471 rfl
theorem dl_475 : decode code 475 = .ok (.iadd, 1) := zdcg 4 zdT_dl_471 rfl
theorem dl_476 : decode code 476 = .ok (.iaload, 1) := zdcg 5 zdT_dl_471 rfl
theorem dl_477 : decode code 477 = .ok (.invokevirtual 57, 3) := zdcg 6 zdT_dl_471 rfl
theorem dl_480 : decode code 480 = .ok (.pop, 1) := zdcg 7 zdT_dl_471 rfl
theorem dl_481 : decode code 481 = .ok (.goto 505, 3) := zdcg 8 zdT_dl_471 rfl
theorem dl_484 : decode code 484 = .ok (.aload_n 1, 1) := zdcg 9 zdT_dl_471 rfl
theorem dl_485 : decode code 485 = .ok (.aload_n 0, 1) := zdcg 10 zdT_dl_471 rfl
theorem dl_486 : decode code 486 = .ok (.iload_n 3, 1) := zdcg 11 zdT_dl_471 rfl
theorem dl_487 : decode code 487 = .ok (.iconst 1, 1) := zdcg 12 zdT_dl_471 rfl
theorem dl_488 : decode code 488 = .ok (.iadd, 1) := zdcg 13 zdT_dl_471 rfl
theorem dl_489 : decode code 489 = .ok (.iaload, 1) := zdcg 14 zdT_dl_471 rfl
theorem dl_490 : decode code 490 = .ok (.aload_n 0, 1) := zdcg 15 zdT_dl_471 rfl
theorem dl_491 : decode code 491 = .ok (.iload_n 3, 1) := zdcg 16 zdT_dl_471 rfl
theorem dl_492 : decode code 492 = .ok (.iconst 2, 1) := zdcg 17 zdT_dl_471 rfl
theorem dl_493 : decode code 493 = .ok (.iadd, 1) := zdcg 18 zdT_dl_471 rfl
theorem dl_494 : decode code 494 = .ok (.iaload, 1) := zdcg 19 zdT_dl_471 rfl
theorem dl_495 : decode code 495 = .ok (.invokevirtual 58, 3) := zdcg 20 zdT_dl_471 rfl
theorem dl_498 : decode code 498 = .ok (.pop, 1) := zdcg 21 zdT_dl_471 rfl
theorem dl_499 : decode code 499 = .ok (.aload_n 2, 1) := zdcg 22 zdT_dl_471 rfl
theorem dl_500 : decode code 500 = .ok (.aload_n 0, 1) := zdcg 23 zdT_dl_471 rfl
theorem dl_501 : decode code 501 = .ok (.iload_n 3, 1) := zdcg 24 zdT_dl_471 rfl
theorem zdT_dl_502 : zdch code [(502, (.iconst 1, 1)), (503, (.iadd, 1)), (504, (.iaload, 1)), (505, (.aload_n 0, 1)), (506, (.iload_n 3, 1)), (507, (.iconst 2, 1)), (508, (.iadd, 1)), (509, (.iaload, 1)), (510, (.invokevirtual 61, 3)), (513, (.pop, 1)), (514, (.goto 472, 3)), (517, (.aload_n 1, 1)), (518, (.aload_n 0, 1)), (519, (.iload_n 3, 1)), (520, (.iconst 1, 1)), (521, (.iadd, 1)), (522, (.iaload, 1)), (523, (.aload_n 0, 1)), (524, (.iload_n 3, 1)), (525, (.iconst 2, 1)), (526, (.iadd, 1)), (527, (.iaload, 1)), (528, (.invokevirtual 62, 3)), (531, (.pop, 1)), (532, (.aload_n 2, 1))] = true := by decide +kernel
theorem dl_502 : decode code 502 = .ok (.iconst 1, 1) := zdcg 0 zdT_dl_502 rfl
theorem dl_503 : decode code 503 = .ok (.iadd, 1) := zdcg 1 zdT_dl_502 rfl
theorem dl_504 : decode code 504 = .ok (.iaload, 1) := zdcg 2 zdT_dl_502 rfl
theorem dl_505 : decode code 505 = .ok (.aload_n 0, 1) := zdcg 3 zdT_dl_502 rfl
theorem dl_506 : decode code 506 = .ok (.iload_n 3, 1) := zdcg 4 zdT_dl_502 rfl
theorem dl_507 : decode code 507 = .ok (.iconst 2, 1) := zdcg 5 zdT_dl_502 rfl
theorem dl_508 : decode code 508 = .ok (.iadd, 1) := zdcg 6 zdT_dl_502 rfl
theorem dl_509 : decode code 509 = .ok (.iaload, 1) := zdcg 7 zdT_dl_502 rfl
theorem dl_510 : decode code 510 = .ok (.invokevirtual 61, 3) := zdcg 8 zdT_dl_502 rfl
theorem dl_513 : decode code 513 = .ok (.pop, 1) := zdcg 9 zdT_dl_502 rfl
theorem dl_514 : decode code 514 = .ok (.goto 472, 3) := zdcg 10 zdT_dl_502 rfl
theorem dl_517 : decode code 517 = .ok (.aload_n 1, 1) := zdcg 11 zdT_dl_502 rfl
theorem dl_518 : decode code 518 = .ok (.aload_n 0, 1) := zdcg 12 zdT_dl_502 rfl
theorem dl_519 : decode code 519 = .ok (.iload_n 3, 1) := zdcg 13 zdT_dl_502 rfl
theorem dl_520 : decode code 520 = .ok (.iconst 1, 1) := zdcg 14 zdT_dl_502 rfl
theorem dl_521 : decode code 521 = .ok (.iadd, 1) := zdcg 15 zdT_dl_502 rfl
theorem dl_522 : decode code 522 = .ok (.iaload, 1) := zdcg 16 zdT_dl_502 rfl
theorem dl_523 : decode code 523 = .ok (.aload_n 0, 1) := zdcg 17 zdT_dl_502 rfl
theorem dl_524 : decode code 524 = .ok (.iload_n 3, 1) := zdcg 18 zdT_dl_502 rfl
theorem dl_525 : decode code 525 = .ok (.iconst 2, 1) := zdcg 19 zdT_dl_502 rfl
theorem dl_526 : decode code 526 = .ok (.iadd, 1) := zdcg 20 zdT_dl_502 rfl
theorem dl_527 : decode code 527 = .ok (.iaload, 1) := zdcg 21 zdT_dl_502 rfl
theorem dl_528 : decode code 528 = .ok (.invokevirtual 62, 3) := zdcg 22 zdT_dl_502 rfl
theorem dl_531 : decode code 531 = .ok (.pop, 1) := zdcg 23 zdT_dl_502 rfl
theorem dl_532 : decode code 532 = .ok (.aload_n 2, 1) := zdcg 24 zdT_dl_502 rfl
theorem zdT_dl_533 : zdch code [(533, (.aload_n 0, 1)), (534, (.iload_n 3, 1)), (535, (.iconst 1, 1)), (536, (.iadd, 1)), (537, (.iaload, 1)), (538, (.aload_n 0, 1)), (539, (.iload_n 3, 1)), (540, (.iconst 2, 1)), (541, (.iadd, 1)), (542, (.iaload, 1)), (543, (.invokevirtual 65, 3)), (546, (.pop, 1)), (547, (.goto 439, 3)), (550, (.aload_n 1, 1)), (551, (.aload_n 0, 1)), (552, (.iload_n 3, 1)), (553, (.iconst 1, 1)), (554, (.iadd, 1)), (555, (.iaload, 1)), (556, (.aload_n 0, 1)), (557, (.iload_n 3, 1)), (558, (.iconst 2, 1)), (559, (.iadd, 1)), (560, (.iaload, 1)), (561, (.invokevirtual 66, 3))] = true := by decide +kernel
theorem dl_533 : decode code 533 = .ok (.aload_n 0, 1) := zdcg 0 zdT_dl_533 rfl
theorem dl_534 : decode code 534 = .ok (.iload_n 3, 1) := zdcg 1 zdT_dl_533 rfl
theorem dl_535 : decode code 535 = .ok (.iconst 1, 1) := zdcg 2 zdT_dl_533 rfl
theorem dl_536 : decode code 536 = .ok (.iadd, 1) := zdcg 3 zdT_dl_533 rfl
theorem dl_537 : decode code 537 = .ok (.iaload, 1) := zdcg 4 zdT_dl_533 rfl
theorem dl_538 : decode code 538 = .ok (.aload_n 0, 1) := zdcg 5 zdT_dl_533 rfl
theorem dl_539 : decode code 539 = .ok (.iload_n 3, 1) := zdcg 6 zdT_dl_533 rfl
theorem dl_540 : decode code 540 = .ok (.iconst 2, 1) := zdcg 7 zdT_dl_533 rfl
theorem dl_541 : decode code 541 = .ok (.iadd, 1) := zdcg 8 zdT_dl_533 rfl
theorem dl_542 : decode code 542 = .ok (.iaload, 1) := zdcg 9 zdT_dl_533 rfl
theorem dl_543 : decode code 543 = .ok (.invokevirtual 65, 3) := zdcg 10 zdT_dl_533 rfl
theorem dl_546 : decode code 546 = .ok (.pop, 1) := zdcg 11 zdT_dl_533 rfl
theorem dl_547 : decode code 547 = .ok (.goto 439, 3) := zdcg 12 zdT_dl_533 rfl
theorem dl_550 : decode code 550 = .ok (.aload_n 1, 1) := zdcg 13 zdT_dl_533 rfl
theorem dl_551 : decode code 551 = .ok (.aload_n 0, 1) := zdcg 14 zdT_dl_533 rfl
theorem dl_552 : decode code 552 = .ok (.iload_n 3, 1) := zdcg 15 zdT_dl_533 rfl
theorem dl_553 : decode code 553 = .ok (.iconst 1, 1) := zdcg 16 zdT_dl_533 rfl
theorem dl_554 : decode code 554 = .ok (.iadd, 1) := zdcg 17 zdT_dl_533 rfl
theorem dl_555 : decode code 555 = .ok (.iaload, 1) := zdcg 18 zdT_dl_533 rfl
theorem dl_556 : decode code 556 = .ok (.aload_n 0, 1) := zdcg 19 zdT_dl_533 rfl
theorem dl_557 : decode code 557 = .ok (.iload_n 3, 1) := zdcg 20 zdT_dl_533 rfl
theorem dl_558 : decode code 558 = .ok (.iconst 2, 1) := zdcg 21 zdT_dl_533 rfl
theorem dl_559 : decode code 559 = .ok (.iadd, 1) := zdcg 22 zdT_dl_533 rfl
theorem dl_560 : decode code 560 = .ok (.iaload, 1) := zdcg 23 zdT_dl_533 rfl
theorem dl_561 : decode code 561 = .ok (.invokevirtual 66, 3) := zdcg 24 zdT_dl_533 rfl
theorem zdT_dl_564 : zdch code [(564, (.pop, 1)), (565, (.aload_n 2, 1)), (566, (.aload_n 0, 1)), (567, (.iload_n 3, 1)), (568, (.iconst 1, 1)), (569, (.iadd, 1)), (570, (.iaload, 1)), (571, (.aload_n 0, 1)), (572, (.iload_n 3, 1)), (573, (.iconst 2, 1)), (574, (.iadd, 1)), (575, (.iaload, 1)), (576, (.invokevirtual 69, 3)), (579, (.pop, 1)), (580, (.goto 406, 3)), (583, (.aload_n 1, 1)), (584, (.aload_n 0, 1)), (585, (.iload_n 3, 1)), (586, (.iconst 1, 1)), (587, (.iadd, 1)), (588, (.iaload, 1)), (589, (.aload_n 0, 1)), (590, (.iload_n 3, 1)), (591, (.iconst 2, 1)), (592, (.iadd, 1))] = true := by decide +kernel
theorem dl_564 : decode code 564 = .ok (.pop, 1) := zdcg 0 zdT_dl_564 rfl
theorem dl_565 : decode code 565 = .ok (.aload_n 2, 1) := zdcg 1 zdT_dl_564 rfl
theorem dl_566 : decode code 566 = .ok (.aload_n 0, 1) := zdcg 2 zdT_dl_564 rfl
theorem dl_567 : decode code 567 = .ok (.iload_n 3, 1) := zdcg 3 zdT_dl_564 rfl
theorem dl_568 : decode code 568 = .ok (.iconst 1, 1) := zdcg 4 zdT_dl_564 rfl
theorem dl_569 : decode code 569 = .ok (.iadd, 1) := zdcg 5 zdT_dl_564 rfl
theorem dl_570 : decode code 570 = .ok (.iaload, 1) := zdcg 6 zdT_dl_564 rfl
theorem dl_571 : decode code 571 = .ok (.aload_n 0, 1) := zdcg 7 zdT_dl_564 rfl
theorem dl_572 : decode code 572 = .ok (.iload_n 3, 1) := zdcg 8 zdT_dl_564 rfl
theorem dl_573 : decode code 573 = .ok (.iconst 2, 1) := zdcg 9 zdT_dl_564 rfl
theorem dl_574 : decode code 574 = .ok (.iadd, 1) := zdcg 10 zdT_dl_564 rfl
theorem dl_575 : decode code 575 = .ok (.iaload, 1) := zdcg 11 zdT_dl_564 rfl
theorem dl_576 : decode code 576 = .ok (.invokevirtual 69, 3) := zdcg 12 zdT_dl_564 rfl
theorem dl_579 : decode code 579 = .ok (.pop, 1) := zdcg 13 zdT_dl_564 rfl
theorem dl_580 : decode code 580 = .ok (.goto 406, 3) := zdcg 14 zdT_dl_564 rfl
theorem dl_583 : decode code 583 = .ok (.aload_n 1, 1) := zdcg 15 zdT_dl_564 rfl
theorem dl_584 : decode code 584 = .ok (.aload_n 0, 1) := zdcg 16 zdT_dl_564 rfl
theorem dl_585 : decode code 585 = .ok (.iload_n 3, 1) := zdcg 17 zdT_dl_564 rfl
theorem dl_586 : decode code 586 = .ok (.iconst 1, 1) := zdcg 18 zdT_dl_564 rfl
theorem dl_587 : decode code 587 = .ok (.iadd, 1) := zdcg 19 zdT_dl_564 rfl
theorem dl_588 : decode code 588 = .ok (.iaload, 1) := zdcg 20 zdT_dl_564 rfl
theorem dl_589 : decode code 589 = .ok (.aload_n 0, 1) := zdcg 21 zdT_dl_564 rfl
theorem dl_590 : decode code 590 = .ok (.iload_n 3, 1) := zdcg 22 zdT_dl_564 rfl
theorem dl_591 : decode code 591 = .ok (.iconst 2, 1) := zdcg 23 zdT_dl_564 rfl
theorem dl_592 : decode code 592 = .ok (.iadd, 1) := zdcg 24 zdT_dl_564 rfl
theorem zdT_dl_593 : zdch code [(593, (.iaload, 1)), (594, (.invokevirtual 70, 3)), (597, (.pop, 1)), (598, (.aload_n 2, 1)), (599, (.aload_n 0, 1)), (600, (.iload_n 3, 1)), (601, (.iconst 1, 1)), (602, (.iadd, 1)), (603, (.iaload, 1)), (604, (.aload_n 0, 1)), (605, (.iload_n 3, 1)), (606, (.iconst 2, 1)), (607, (.iadd, 1)), (608, (.iaload, 1)), (609, (.invokevirtual 73, 3)), (612, (.pop, 1)), (613, (.goto 373, 3)), (616, (.aload_n 1, 1)), (617, (.aload_n 0, 1)), (618, (.iload_n 3, 1)), (619, (.iconst 1, 1)), (620, (.iadd, 1)), (621, (.iaload, 1)), (622, (.aload_n 0, 1)), (623, (.iload_n 3, 1))] = true := by decide +kernel
theorem dl_593 : decode code 593 = .ok (.iaload, 1) := zdcg 0 zdT_dl_593 rfl
theorem dl_594 : decode code 594 = .ok (.invokevirtual 70, 3) := zdcg 1 zdT_dl_593 rfl
theorem dl_597 : decode code 597 = .ok (.pop, 1) := zdcg 2 zdT_dl_593 rfl
theorem dl_598 : decode code 598 = .ok (.aload_n 2, 1) := zdcg 3 zdT_dl_593 rfl
theorem dl_599 : decode code 599 = .ok (.aload_n 0, 1) := zdcg 4 zdT_dl_593 rfl
theorem dl_600 : decode code 600 = .ok (.iload_n 3, 1) := zdcg 5 zdT_dl_593 rfl
theorem dl_601 : decode code 601 = .ok (.iconst 1, 1) := zdcg 6 zdT_dl_593 rfl
theorem dl_602 : decode code 602 = .ok (.iadd, 1) := zdcg 7 zdT_dl_593 rfl
theorem dl_603 : decode code 603 = .ok (.iaload, 1) := zdcg 8 zdT_dl_593 rfl
theorem dl_604 : decode code 604 = .ok (.aload_n 0, 1) := zdcg 9 zdT_dl_593 rfl
theorem dl_605 : decode code 605 = .ok (.iload_n 3, 1) := zdcg 10 zdT_dl_593 rfl
theorem dl_606 : decode code 606 = .ok (.iconst 2, 1) := zdcg 11 zdT_dl_593 rfl
theorem dl_607 : decode code 607 = .ok (.iadd, 1) := zdcg 12 zdT_dl_593 rfl
theorem dl_608 : decode code 608 = .ok (.iaload, 1) := zdcg 13 zdT_dl_593 rfl
theorem dl_609 : decode code 609 = .ok (.invokevirtual 73, 3) := zdcg 14 zdT_dl_593 rfl
theorem dl_612 : decode code 612 = .ok (.pop, 1) := zdcg 15 zdT_dl_593 rfl
theorem dl_613 : decode code 613 = .ok (.goto 373, 3) := zdcg 16 zdT_dl_593 rfl
theorem dl_616 : decode code 616 = .ok (.aload_n 1, 1) := zdcg 17 zdT_dl_593 rfl
theorem dl_617 : decode code 617 = .ok (.aload_n 0, 1) := zdcg 18 zdT_dl_593 rfl
theorem dl_618 : decode code 618 = .ok (.iload_n 3, 1) := zdcg 19 zdT_dl_593 rfl
theorem dl_619 : decode code 619 = .ok (.iconst 1, 1) := zdcg 20 zdT_dl_593 rfl
theorem dl_620 : decode code 620 = .ok (.iadd, 1) := zdcg 21 zdT_dl_593 rfl
theorem dl_621 : decode code 621 = .ok (.iaload, 1) := zdcg 22 zdT_dl_593 rfl
theorem dl_622 : decode code 622 = .ok (.aload_n 0, 1) := zdcg 23 zdT_dl_593 rfl
theorem dl_623 : decode code 623 = .ok (.iload_n 3, 1) := zdcg 24 zdT_dl_593 rfl
theorem zdT_dl_624 : zdch code [(624, (.iconst 2, 1)), (625, (.iadd, 1)), (626, (.iaload, 1)), (627, (.invokevirtual 74, 3)), (630, (.pop, 1)), (631, (.aload_n 2, 1)), (632, (.aload_n 0, 1)), (633, (.iload_n 3, 1)), (634, (.iconst 1, 1)), (635, (.iadd, 1)), (636, (.iaload, 1)), (637, (.aload_n 0, 1)), (638, (.iload_n 3, 1)), (639, (.iconst 2, 1)), (640, (.iadd, 1)), (641, (.iaload, 1)), (642, (.invokevirtual 77, 3)), (645, (.pop, 1)), (646, (.goto 340, 3)), (649, (.aload_n 1, 1)), (650, (.aload_n 0, 1)), (651, (.iload_n 3, 1)), (652, (.iconst 1, 1)), (653, (.iadd, 1)), (654, (.iaload, 1))] = true := by decide +kernel
theorem dl_624 : decode code 624 = .ok (.iconst 2, 1) := zdcg 0 zdT_dl_624 rfl
theorem dl_625 : decode code 625 = .ok (.iadd, 1) := zdcg 1 zdT_dl_624 rfl
theorem dl_626 : decode code 626 = .ok (.iaload, 1) := zdcg 2 zdT_dl_624 rfl
theorem dl_627 : decode code 627 = .ok (.invokevirtual 74, 3) := zdcg 3 zdT_dl_624 rfl
theorem dl_630 : decode code 630 = .ok (.pop, 1) := zdcg 4 zdT_dl_624 rfl
theorem dl_631 : decode code 631 = .ok (.aload_n 2, 1) := zdcg 5 zdT_dl_624 rfl
theorem dl_632 : decode code 632 = .ok (.aload_n 0, 1) := zdcg 6 zdT_dl_624 rfl
theorem dl_633 : decode code 633 = .ok (.iload_n 3, 1) := zdcg 7 zdT_dl_624 rfl
theorem dl_634 : decode code 634 = .ok (.iconst 1, 1) := zdcg 8 zdT_dl_624 rfl
theorem dl_635 : decode code 635 = .ok (.iadd, 1) := zdcg 9 zdT_dl_624 rfl
theorem dl_636 : decode code 636 = .ok (.iaload, 1) := zdcg 10 zdT_dl_624 rfl
theorem dl_637 : decode code 637 = .ok (.aload_n 0, 1) := zdcg 11 zdT_dl_624 rfl
theorem dl_638 : decode code 638 = .ok (.iload_n 3, 1) := zdcg 12 zdT_dl_624 rfl
theorem dl_639 : decode code 639 = .ok (.iconst 2, 1) := zdcg 13 zdT_dl_624 rfl
theorem dl_640 : decode code 640 = .ok (.iadd, 1) := zdcg 14 zdT_dl_624 rfl
theorem dl_641 : decode code 641 = .ok (.iaload, 1) := zdcg 15 zdT_dl_624 rfl
theorem dl_642 : decode code 642 = .ok (.invokevirtual 77, 3) := zdcg 16 zdT_dl_624 rfl
theorem dl_645 : decode code 645 = .ok (.pop, 1) := zdcg 17 zdT_dl_624 rfl
theorem dl_646 : decode code 646 = .ok (.goto 340, 3) := zdcg 18 zdT_dl_624 rfl
theorem dl_649 : decode code 649 = .ok (.aload_n 1, 1) := zdcg 19 zdT_dl_624 rfl
theorem dl_650 : decode code 650 = .ok (.aload_n 0, 1) := zdcg 20 zdT_dl_624 rfl
theorem dl_651 : decode code 651 = .ok (.iload_n 3, 1) := zdcg 21 zdT_dl_624 rfl
theorem dl_652 : decode code 652 = .ok (.iconst 1, 1) := zdcg 22 zdT_dl_624 rfl
theorem dl_653 : decode code 653 = .ok (.iadd, 1) := zdcg 23 zdT_dl_624 rfl
theorem dl_654 : decode code 654 = .ok (.iaload, 1) := zdcg 24 zdT_dl_624 rfl
theorem zdT_dl_655 : zdch code [(655, (.aload_n 0, 1)), (656, (.iload_n 3, 1)), (657, (.iconst 2, 1)), (658, (.iadd, 1)), (659, (.iaload, 1)), (660, (.aload_n 0, 1)), (661, (.iload_n 3, 1)), (662, (.iconst 3, 1)), (663, (.iadd, 1)), (664, (.iaload, 1)), (665, (.aload_n 0, 1)), (666, (.iload_n 3, 1)), (667, (.iconst 4, 1)), (668, (.iadd, 1)), (669, (.iaload, 1)), (670, (.invokevirtual 78, 3)), (673, (.pop, 1)), (674, (.aload_n 2, 1)), (675, (.aload_n 0, 1)), (676, (.iload_n 3, 1)), (677, (.iconst 1, 1)), (678, (.iadd, 1)), (679, (.iaload, 1)), (680, (.aload_n 0, 1)), (681, (.iload_n 3, 1))] = true := by decide +kernel
theorem dl_655 : decode code 655 = .ok (.aload_n 0, 1) := zdcg 0 zdT_dl_655 rfl
theorem dl_656 : decode code 656 = .ok (.iload_n 3, 1) := zdcg 1 zdT_dl_655 rfl
theorem dl_657 : decode code 657 = .ok (.iconst 2, 1) := zdcg 2 zdT_dl_655 rfl
theorem dl_658 : decode code 658 = .ok (.iadd, 1) := zdcg 3 zdT_dl_655 rfl
theorem dl_659 : decode code 659 = .ok (.iaload, 1) := zdcg 4 zdT_dl_655 rfl
theorem dl_660 : decode code 660 = .ok (.aload_n 0, 1) := zdcg 5 zdT_dl_655 rfl
theorem dl_661 : decode code 661 = .ok (.iload_n 3, 1) := zdcg 6 zdT_dl_655 rfl
theorem dl_662 : decode code 662 = .ok (.iconst 3, 1) := zdcg 7 zdT_dl_655 rfl
theorem dl_663 : decode code 663 = .ok (.iadd, 1) := zdcg 8 zdT_dl_655 rfl
theorem dl_664 : decode code 664 = .ok (.iaload, 1) := zdcg 9 zdT_dl_655 rfl
theorem dl_665 : decode code 665 = .ok (.aload_n 0, 1) := zdcg 10 zdT_dl_655 rfl
theorem dl_666 : decode code 666 = .ok (.iload_n 3, 1) := zdcg 11 zdT_dl_655 rfl
theorem dl_667 : decode code 667 = .ok (.iconst 4, 1) := zdcg 12 zdT_dl_655 rfl
theorem dl_668 : decode code 668 = .ok (.iadd, 1) := zdcg 13 zdT_dl_655 rfl
theorem dl_669 : decode code 669 = .ok (.iaload, 1) := zdcg 14 zdT_dl_655 rfl
theorem dl_670 : decode code 670 = .ok (.invokevirtual 78, 3) := zdcg 15 zdT_dl_655 rfl
theorem dl_673 : decode code 673 = .ok (.pop, 1) := zdcg 16 zdT_dl_655 rfl
theorem dl_674 : decode code 674 = .ok (.aload_n 2, 1) := zdcg 17 zdT_dl_655 rfl
theorem dl_675 : decode code 675 = .ok (.aload_n 0, 1) := zdcg 18 zdT_dl_655 rfl
theorem dl_676 : decode code 676 = .ok (.iload_n 3, 1) := zdcg 19 zdT_dl_655 rfl
theorem dl_677 : decode code 677 = .ok (.iconst 1, 1) := zdcg 20 zdT_dl_655 rfl
theorem dl_678 : decode code 678 = .ok (.iadd, 1) := zdcg 21 zdT_dl_655 rfl
theorem dl_679 : decode code 679 = .ok (.iaload, 1) := zdcg 22 zdT_dl_655 rfl
theorem dl_680 : decode code 680 = .ok (.aload_n 0, 1) := zdcg 23 zdT_dl_655 rfl
theorem dl_681 : decode code 681 = .ok (.iload_n 3, 1) := zdcg 24 zdT_dl_655 rfl
theorem zdT_dl_682 : zdch code [(682, (.iconst 2, 1)), (683, (.iadd, 1)), (684, (.iaload, 1)), (685, (.aload_n 0, 1)), (686, (.iload_n 3, 1)), (687, (.iconst 3, 1)), (688, (.iadd, 1)), (689, (.iaload, 1)), (690, (.aload_n 0, 1)), (691, (.iload_n 3, 1)), (692, (.iconst 4, 1)), (693, (.iadd, 1)), (694, (.iaload, 1)), (695, (.invokevirtual 82, 3)), (698, (.pop, 1)), (699, (.goto 287, 3))] = true := by decide +kernel
theorem dl_682 : decode code 682 = .ok (.iconst 2, 1) := zdcg 0 zdT_dl_682 rfl
theorem dl_683 : decode code 683 = .ok (.iadd, 1) := zdcg 1 zdT_dl_682 rfl
theorem dl_684 : decode code 684 = .ok (.iaload, 1) := zdcg 2 zdT_dl_682 rfl
theorem dl_685 : decode code 685 = .ok (.aload_n 0, 1) := zdcg 3 zdT_dl_682 rfl
theorem dl_686 : decode code 686 = .ok (.iload_n 3, 1) := zdcg 4 zdT_dl_682 rfl
theorem dl_687 : decode code 687 = .ok (.iconst 3, 1) := zdcg 5 zdT_dl_682 rfl
theorem dl_688 : decode code 688 = .ok (.iadd, 1) := zdcg 6 zdT_dl_682 rfl
theorem dl_689 : decode code 689 = .ok (.iaload, 1) := zdcg 7 zdT_dl_682 rfl
theorem dl_690 : decode code 690 = .ok (.aload_n 0, 1) := zdcg 8 zdT_dl_682 rfl
theorem dl_691 : decode code 691 = .ok (.iload_n 3, 1) := zdcg 9 zdT_dl_682 rfl
theorem dl_692 : decode code 692 = .ok (.iconst 4, 1) := zdcg 10 zdT_dl_682 rfl
theorem dl_693 : decode code 693 = .ok (.iadd, 1) := zdcg 11 zdT_dl_682 rfl
theorem dl_694 : decode code 694 = .ok (.iaload, 1) := zdcg 12 zdT_dl_682 rfl
theorem dl_695 : decode code 695 = .ok (.invokevirtual 82, 3) := zdcg 13 zdT_dl_682 rfl
theorem dl_698 : decode code 698 = .ok (.pop, 1) := zdcg 14 zdT_dl_682 rfl
theorem dl_699 : decode code 699 = .ok (.goto 287, 3) := zdcg 15 zdT_dl_682 rfl
end
section
/-! instructions of the law, by program -/
theorem zdT_dl_702 : zdch code [(702, (.aload_n 1, 1)), (703, (.aload_n 0, 1)), (704, (.iload_n 3, 1)), (705, (.iconst 1, 1)), (706, (.iadd, 1)), (707, (.iaload, 1)), (708, (.aload_n 0, 1)), (709, (.iload_n 3, 1)), (710, (.iconst 2, 1)), (711, (.iadd, 1)), (712, (.iaload, 1)), (713, (.aload_n 0, 1)), (714, (.iload_n 3, 1)), (715, (.iconst 3, 1)), (716, (.iadd, 1)), (717, (.iaload, 1)), (718, (.invokevirtual 83, 3)), (721, (.pop, 1)), (722, (.aload_n 2, 1)), (723, (.aload_n 0, 1)), (724, (.iload_n 3, 1)), (725, (.iconst 1, 1)), (726, (.iadd, 1)), (727, (.iaload, 1)), (728, (.aload_n 0, 1))] = true := by decide +kernel
theorem dl_702 : decode code 702 = .ok (.aload_n 1, 1) := zdcg 0 zdT_dl_702 rfl
theorem dl_703 : decode code 703 = .ok (.aload_n 0, 1) := zdcg 1 zdT_dl_702 rfl
theorem dl_704 : decode code 704 = .ok (.iload_n 3, 1) := zdcg 2 zdT_dl_702 rfl
theorem dl_705 : decode code 705 = .ok (.iconst 1, 1) := zdcg 3 zdT_dl_702 rfl
theorem dl_706 : decode code 706 = .ok (.iadd, 1) := zdcg 4 zdT_dl_702 rfl
theorem dl_707 : decode code 707 = .ok (.iaload, 1) := zdcg 5 zdT_dl_702 rfl
theorem dl_708 : decode code 708 = .ok (.aload_n 0, 1) := zdcg 6 zdT_dl_702 rfl
theorem dl_709 : decode code 709 = .ok (.iload_n 3, 1) := zdcg 7 zdT_dl_702 rfl
theorem dl_710 : decode code 710 = .ok (.iconst 2, 1) := zdcg 8 zdT_dl_702 rfl
theorem dl_711 : decode code 711 = .ok (.iadd, 1) := zdcg 9 zdT_dl_702 rfl
theorem dl_712 : decode code 712 = .ok (.iaload, 1) := zdcg 10 zdT_dl_702 rfl
theorem dl_713 : decode code 713 = .ok (.aload_n 0, 1) := zdcg 11 zdT_dl_702 rfl
theorem dl_714 : decode code 714 = .ok (.iload_n 3, 1) := zdcg 12 zdT_dl_702 rfl
theorem dl_715 : decode code 715 = .ok (.iconst 3, 1) := zdcg 13 zdT_dl_702 rfl
theorem dl_716 : decode code 716 = .ok (.iadd, 1) := zdcg 14 zdT_dl_702 rfl
theorem dl_717 : decode code 717 = .ok (.iaload, 1) := zdcg 15 zdT_dl_702 rfl
theorem dl_718 : decode code 718 = .ok (.invokevirtual 83, 3) := zdcg 16 zdT_dl_702 rfl
theorem dl_721 : decode code 721 = .ok (.pop, 1) := zdcg 17 zdT_dl_702 rfl
theorem dl_722 : decode code 722 = .ok (.aload_n 2, 1) := zdcg 18 zdT_dl_702 rfl
theorem dl_723 : decode code 723 = .ok (.aload_n 0, 1) := zdcg 19 zdT_dl_702 rfl
theorem dl_724 : decode code 724 = .ok (.iload_n 3, 1) := zdcg 20 zdT_dl_702 rfl
theorem dl_725 : decode code 725 = .ok (.iconst 1, 1) := zdcg 21 zdT_dl_702 rfl
theorem dl_726 : decode code 726 = .ok (.iadd, 1) := zdcg 22 zdT_dl_702 rfl
theorem dl_727 : decode code 727 = .ok (.iaload, 1) := zdcg 23 zdT_dl_702 rfl
theorem dl_728 : decode code 728 = .ok (.aload_n 0, 1) := zdcg 24 zdT_dl_702 rfl
theorem zdT_dl_729 : zdch code [(729, (.iload_n 3, 1)), (730, (.iconst 2, 1)), (731, (.iadd, 1)), (732, (.iaload, 1)), (733, (.aload_n 0, 1)), (734, (.iload_n 3, 1)), (735, (.iconst 3, 1)), (736, (.iadd, 1)), (737, (.iaload, 1)), (738, (.invokevirtual 86, 3)), (741, (.pop, 1)), (742, (.goto 244, 3)), (745, (.aload_n 1, 1)), (746, (.aload_n 0, 1)), (747, (.iload_n 3, 1)), (748, (.iconst 1, 1)), (749, (.iadd, 1)), (750, (.iaload, 1)), (751, (.aload_n 0, 1)), (752, (.iload_n 3, 1)), (753, (.iconst 2, 1)), (754, (.iadd, 1)), (755, (.iaload, 1)), (756, (.invokevirtual 87, 3)), (759, (.pop, 1))] = true := by decide +kernel
theorem dl_729 : decode code 729 = .ok (.iload_n 3, 1) := zdcg 0 zdT_dl_729 rfl
theorem dl_730 : decode code 730 = .ok (.iconst 2, 1) := zdcg 1 zdT_dl_729 rfl
theorem dl_731 : decode code 731 = .ok (.iadd, 1) := zdcg 2 zdT_dl_729 rfl
theorem dl_732 : decode code 732 = .ok (.iaload, 1) := zdcg 3 zdT_dl_729 rfl
theorem dl_733 : decode code 733 = .ok (.aload_n 0, 1) := zdcg 4 zdT_dl_729 rfl
theorem dl_734 : decode code 734 = .ok (.iload_n 3, 1) := zdcg 5 zdT_dl_729 rfl
theorem dl_735 : decode code 735 = .ok (.iconst 3, 1) := zdcg 6 zdT_dl_729 rfl
theorem dl_736 : decode code 736 = .ok (.iadd, 1) := zdcg 7 zdT_dl_729 rfl
theorem dl_737 : decode code 737 = .ok (.iaload, 1) := zdcg 8 zdT_dl_729 rfl
theorem dl_738 : decode code 738 = .ok (.invokevirtual 86, 3) := zdcg 9 zdT_dl_729 rfl
theorem dl_741 : decode code 741 = .ok (.pop, 1) := zdcg 10 zdT_dl_729 rfl
theorem dl_742 : decode code 742 = .ok (.goto 244, 3) := zdcg 11 zdT_dl_729 rfl
theorem dl_745 : decode code 745 = .ok (.aload_n 1, 1) := zdcg 12 zdT_dl_729 rfl
theorem dl_746 : decode code 746 = .ok (.aload_n 0, 1) := zdcg 13 zdT_dl_729 rfl
theorem dl_747 : decode code 747 = .ok (.iload_n 3, 1) := zdcg 14 zdT_dl_729 rfl
theorem dl_748 : decode code 748 = .ok (.iconst 1, 1) := zdcg 15 zdT_dl_729 rfl
theorem dl_749 : decode code 749 = .ok (.iadd, 1) := zdcg 16 zdT_dl_729 rfl
theorem dl_750 : decode code 750 = .ok (.iaload, 1) := zdcg 17 zdT_dl_729 rfl
theorem dl_751 : decode code 751 = .ok (.aload_n 0, 1) := zdcg 18 zdT_dl_729 rfl
theorem dl_752 : decode code 752 = .ok (.iload_n 3, 1) := zdcg 19 zdT_dl_729 rfl
theorem dl_753 : decode code 753 = .ok (.iconst 2, 1) := zdcg 20 zdT_dl_729 rfl
theorem dl_754 : decode code 754 = .ok (.iadd, 1) := zdcg 21 zdT_dl_729 rfl
theorem dl_755 : decode code 755 = .ok (.iaload, 1) := zdcg 22 zdT_dl_729 rfl
theorem dl_756 : decode code 756 = .ok (.invokevirtual 87, 3) := zdcg 23 zdT_dl_729 rfl
theorem dl_759 : decode code 759 = .ok (.pop, 1) := zdcg 24 zdT_dl_729 rfl
theorem zdT_dl_760 : zdch code [(760, (.aload_n 2, 1)), (761, (.aload_n 0, 1)), (762, (.iload_n 3, 1)), (763, (.iconst 1, 1)), (764, (.iadd, 1)), (765, (.iaload, 1)), (766, (.aload_n 0, 1)), (767, (.iload_n 3, 1)), (768, (.iconst 2, 1)), (769, (.iadd, 1)), (770, (.iaload, 1)), (771, (.invokevirtual 90, 3)), (774, (.pop, 1)), (775, (.goto 211, 3)), (778, (.aload_n 1, 1)), (779, (.aload_n 0, 1)), (780, (.iload_n 3, 1)), (781, (.iconst 1, 1)), (782, (.iadd, 1)), (783, (.iaload, 1)), (784, (.aload_n 0, 1)), (785, (.iload_n 3, 1)), (786, (.iconst 2, 1)), (787, (.iadd, 1)), (788, (.iaload, 1))] = true := by decide +kernel
theorem dl_760 : decode code 760 = .ok (.aload_n 2, 1) := zdcg 0 zdT_dl_760 rfl
theorem dl_761 : decode code 761 = .ok (.aload_n 0, 1) := zdcg 1 zdT_dl_760 rfl
theorem dl_762 : decode code 762 = .ok (.iload_n 3, 1) := zdcg 2 zdT_dl_760 rfl
theorem dl_763 : decode code 763 = .ok (.iconst 1, 1) := zdcg 3 zdT_dl_760 rfl
theorem dl_764 : decode code 764 = .ok (.iadd, 1) := zdcg 4 zdT_dl_760 rfl
theorem dl_765 : decode code 765 = .ok (.iaload, 1) := zdcg 5 zdT_dl_760 rfl
theorem dl_766 : decode code 766 = .ok (.aload_n 0, 1) := zdcg 6 zdT_dl_760 rfl
theorem dl_767 : decode code 767 = .ok (.iload_n 3, 1) := zdcg 7 zdT_dl_760 rfl
theorem dl_768 : decode code 768 = .ok (.iconst 2, 1) := zdcg 8 zdT_dl_760 rfl
theorem dl_769 : decode code 769 = .ok (.iadd, 1) := zdcg 9 zdT_dl_760 rfl
theorem dl_770 : decode code 770 = .ok (.iaload, 1) := zdcg 10 zdT_dl_760 rfl
theorem dl_771 : decode code 771 = .ok (.invokevirtual 90, 3) := zdcg 11 zdT_dl_760 rfl
theorem dl_774 : decode code 774 = .ok (.pop, 1) := zdcg 12 zdT_dl_760 rfl
theorem dl_775 : decode code 775 = .ok (.goto 211, 3) := zdcg 13 zdT_dl_760 rfl
theorem dl_778 : decode code 778 = .ok (.aload_n 1, 1) := zdcg 14 zdT_dl_760 rfl
theorem dl_779 : decode code 779 = .ok (.aload_n 0, 1) := zdcg 15 zdT_dl_760 rfl
theorem dl_780 : decode code 780 = .ok (.iload_n 3, 1) := zdcg 16 zdT_dl_760 rfl
theorem dl_781 : decode code 781 = .ok (.iconst 1, 1) := zdcg 17 zdT_dl_760 rfl
theorem dl_782 : decode code 782 = .ok (.iadd, 1) := zdcg 18 zdT_dl_760 rfl
theorem dl_783 : decode code 783 = .ok (.iaload, 1) := zdcg 19 zdT_dl_760 rfl
theorem dl_784 : decode code 784 = .ok (.aload_n 0, 1) := zdcg 20 zdT_dl_760 rfl
theorem dl_785 : decode code 785 = .ok (.iload_n 3, 1) := zdcg 21 zdT_dl_760 rfl
theorem dl_786 : decode code 786 = .ok (.iconst 2, 1) := zdcg 22 zdT_dl_760 rfl
theorem dl_787 : decode code 787 = .ok (.iadd, 1) := zdcg 23 zdT_dl_760 rfl
theorem dl_788 : decode code 788 = .ok (.iaload, 1) := zdcg 24 zdT_dl_760 rfl
theorem zdT_dl_789 : zdch code [(789, (.invokevirtual 91, 3)), (792, (.pop2, 1)), (793, (.aload_n 2, 1)), (794, (.aload_n 0, 1)), (795, (.iload_n 3, 1)), (796, (.iconst 1, 1)), (797, (.iadd, 1)), (798, (.iaload, 1)), (799, (.aload_n 0, 1)), (800, (.iload_n 3, 1)), (801, (.iconst 2, 1)), (802, (.iadd, 1)), (803, (.iaload, 1)), (804, (.invokevirtual 95, 3)), (807, (.pop2, 1)), (808, (.goto 178, 3)), (811, (.aload_n 1, 1)), (812, (.aload_n 0, 1)), (813, (.iload_n 3, 1)), (814, (.iconst 1, 1)), (815, (.iadd, 1)), (816, (.iaload, 1)), (817, (.aload_n 0, 1)), (818, (.iload_n 3, 1)), (819, (.iconst 2, 1))] = true := by decide +kernel
theorem dl_789 : decode code 789 = .ok (.invokevirtual 91, 3) := zdcg 0 zdT_dl_789 rfl
theorem dl_792 : decode code 792 = .ok (.pop2, 1) := zdcg 1 zdT_dl_789 rfl
theorem dl_793 : decode code 793 = .ok (.aload_n 2, 1) := zdcg 2 zdT_dl_789 rfl
theorem dl_794 : decode code 794 = .ok (.aload_n 0, 1) := zdcg 3 zdT_dl_789 rfl
theorem dl_795 : decode code 795 = .ok (.iload_n 3, 1) := zdcg 4 zdT_dl_789 rfl
theorem dl_796 : decode code 796 = .ok (.iconst 1, 1) := zdcg 5 zdT_dl_789 rfl
theorem dl_797 : decode code 797 = .ok (.iadd, 1) := zdcg 6 zdT_dl_789 rfl
theorem dl_798 : decode code 798 = .ok (.iaload, 1) := zdcg 7 zdT_dl_789 rfl
theorem dl_799 : decode code 799 = .ok (.aload_n 0, 1) := zdcg 8 zdT_dl_789 rfl
theorem dl_800 : decode code 800 = .ok (.iload_n 3, 1) := zdcg 9 zdT_dl_789 rfl
theorem dl_801 : decode code 801 = .ok (.iconst 2, 1) := zdcg 10 zdT_dl_789 rfl
theorem dl_802 : decode code 802 = .ok (.iadd, 1) := zdcg 11 zdT_dl_789 rfl
theorem dl_803 : decode code 803 = .ok (.iaload, 1) := zdcg 12 zdT_dl_789 rfl
theorem dl_804 : decode code 804 = .ok (.invokevirtual 95, 3) := zdcg 13 zdT_dl_789 rfl
theorem dl_807 : decode code 807 = .ok (.pop2, 1) := zdcg 14 zdT_dl_789 rfl
theorem dl_808 : decode code 808 = .ok (.goto 178, 3) := zdcg 15 zdT_dl_789 rfl
theorem dl_811 : decode code 811 = .ok (.aload_n 1, 1) := zdcg 16 zdT_dl_789 rfl
theorem dl_812 : decode code 812 = .ok (.aload_n 0, 1) := zdcg 17 zdT_dl_789 rfl
theorem dl_813 : decode code 813 = .ok (.iload_n 3, 1) := zdcg 18 zdT_dl_789 rfl
theorem dl_814 : decode code 814 = .ok (.iconst 1, 1) := zdcg 19 zdT_dl_789 rfl
theorem dl_815 : decode code 815 = .ok (.iadd, 1) := zdcg 20 zdT_dl_789 rfl
theorem dl_816 : decode code 816 = .ok (.iaload, 1) := zdcg 21 zdT_dl_789 rfl
theorem dl_817 : decode code 817 = .ok (.aload_n 0, 1) := zdcg 22 zdT_dl_789 rfl
theorem dl_818 : decode code 818 = .ok (.iload_n 3, 1) := zdcg 23 zdT_dl_789 rfl
theorem dl_819 : decode code 819 = .ok (.iconst 2, 1) := zdcg 24 zdT_dl_789 rfl
theorem zdT_dl_820 : zdch code [(820, (.iadd, 1)), (821, (.iaload, 1)), (822, (.aload_n 0, 1)), (823, (.iload_n 3, 1)), (824, (.iconst 3, 1)), (825, (.iadd, 1)), (826, (.iaload, 1)), (827, (.invokevirtual 96, 3)), (830, (.pop2, 1)), (831, (.aload_n 2, 1)), (832, (.aload_n 0, 1)), (833, (.iload_n 3, 1)), (834, (.iconst 1, 1)), (835, (.iadd, 1)), (836, (.iaload, 1)), (837, (.aload_n 0, 1)), (838, (.iload_n 3, 1)), (839, (.iconst 2, 1)), (840, (.iadd, 1)), (841, (.iaload, 1)), (842, (.aload_n 0, 1)), (843, (.iload_n 3, 1)), (844, (.iconst 3, 1)), (845, (.iadd, 1)), (846, (.iaload, 1))] = true := by decide +kernel
theorem dl_820 : decode code 820 = .ok (.iadd, 1) := zdcg 0 zdT_dl_820 rfl
theorem dl_821 : decode code 821 = .ok (.iaload, 1) := zdcg 1 zdT_dl_820 rfl
theorem dl_822 : decode code 822 = .ok (.aload_n 0, 1) := zdcg 2 zdT_dl_820 rfl
theorem dl_823 : decode code 823 = .ok (.iload_n 3, 1) := zdcg 3 zdT_dl_820 rfl
theorem dl_824 : decode code 824 = .ok (.iconst 3, 1) := zdcg 4 zdT_dl_820 rfl
theorem dl_825 : decode code 825 = .ok (.iadd, 1) := zdcg 5 zdT_dl_820 rfl
theorem dl_826 : decode code 826 = .ok (.iaload, 1) := zdcg 6 zdT_dl_820 rfl
theorem dl_827 : decode code 827 = .ok (.invokevirtual 96, 3) := zdcg 7 zdT_dl_820 rfl
theorem dl_830 : decode code 830 = .ok (.pop2, 1) := zdcg 8 zdT_dl_820 rfl
theorem dl_831 : decode code 831 = .ok (.aload_n 2, 1) := zdcg 9 zdT_dl_820 rfl
theorem dl_832 : decode code 832 = .ok (.aload_n 0, 1) := zdcg 10 zdT_dl_820 rfl
theorem dl_833 : decode code 833 = .ok (.iload_n 3, 1) := zdcg 11 zdT_dl_820 rfl
theorem dl_834 : decode code 834 = .ok (.iconst 1, 1) := zdcg 12 zdT_dl_820 rfl
theorem dl_835 : decode code 835 = .ok (.iadd, 1) := zdcg 13 zdT_dl_820 rfl
theorem dl_836 : decode code 836 = .ok (.iaload, 1) := zdcg 14 zdT_dl_820 rfl
theorem dl_837 : decode code 837 = .ok (.aload_n 0, 1) := zdcg 15 zdT_dl_820 rfl
theorem dl_838 : decode code 838 = .ok (.iload_n 3, 1) := zdcg 16 zdT_dl_820 rfl
theorem dl_839 : decode code 839 = .ok (.iconst 2, 1) := zdcg 17 zdT_dl_820 rfl
theorem dl_840 : decode code 840 = .ok (.iadd, 1) := zdcg 18 zdT_dl_820 rfl
theorem dl_841 : decode code 841 = .ok (.iaload, 1) := zdcg 19 zdT_dl_820 rfl
theorem dl_842 : decode code 842 = .ok (.aload_n 0, 1) := zdcg 20 zdT_dl_820 rfl
theorem dl_843 : decode code 843 = .ok (.iload_n 3, 1) := zdcg 21 zdT_dl_820 rfl
theorem dl_844 : decode code 844 = .ok (.iconst 3, 1) := zdcg 22 zdT_dl_820 rfl
theorem dl_845 : decode code 845 = .ok (.iadd, 1) := zdcg 23 zdT_dl_820 rfl
theorem dl_846 : decode code 846 = .ok (.iaload, 1) := zdcg 24 zdT_dl_820 rfl
theorem zdT_dl_847 : zdch code [(847, (.invokevirtual 100, 3)), (850, (.pop2, 1)), (851, (.goto 135, 3)), (854, (.aload_n 1, 1)), (855, (.aload_n 0, 1)), (856, (.iload_n 3, 1)), (857, (.iconst 1, 1)), (858, (.iadd, 1)), (859, (.iaload, 1)), (860, (.aload_n 0, 1)), (861, (.iload_n 3, 1)), (862, (.iconst 2, 1)), (863, (.iadd, 1)), (864, (.iaload, 1)), (865, (.invokevirtual 101, 3)), (868, (.pop2, 1)), (869, (.aload_n 2, 1)), (870, (.aload_n 0, 1)), (871, (.iload_n 3, 1)), (872, (.iconst 1, 1)), (873, (.iadd, 1)), (874, (.iaload, 1)), (875, (.aload_n 0, 1)), (876, (.iload_n 3, 1)), (877, (.iconst 2, 1))] = true := by decide +kernel
theorem dl_847 : decode code 847 = .ok (.invokevirtual 100, 3) := zdcg 0 zdT_dl_847 rfl
theorem dl_850 : decode code 850 = .ok (.pop2, 1) := zdcg 1 zdT_dl_847 rfl
theorem dl_851 : decode code 851 = .ok (.goto 135, 3) := zdcg 2 zdT_dl_847 rfl
theorem dl_854 : decode code 854 = .ok (.aload_n 1, 1) := zdcg 3 zdT_dl_847 rfl
theorem dl_855 : decode code 855 = .ok (.aload_n 0, 1) := zdcg 4 zdT_dl_847 rfl
theorem dl_856 : decode code 856 = .ok (.iload_n 3, 1) := zdcg 5 zdT_dl_847 rfl
theorem dl_857 : decode code 857 = .ok (.iconst 1, 1) := zdcg 6 zdT_dl_847 rfl
theorem dl_858 : decode code 858 = .ok (.iadd, 1) := zdcg 7 zdT_dl_847 rfl
theorem dl_859 : decode code 859 = .ok (.iaload, 1) := zdcg 8 zdT_dl_847 rfl
theorem dl_860 : decode code 860 = .ok (.aload_n 0, 1) := zdcg 9 zdT_dl_847 rfl
theorem dl_861 : decode code 861 = .ok (.iload_n 3, 1) := zdcg 10 zdT_dl_847 rfl
theorem dl_862 : decode code 862 = .ok (.iconst 2, 1) := zdcg 11 zdT_dl_847 rfl
theorem dl_863 : decode code 863 = .ok (.iadd, 1) := zdcg 12 zdT_dl_847 rfl
theorem dl_864 : decode code 864 = .ok (.iaload, 1) := zdcg 13 zdT_dl_847 rfl
theorem dl_865 : decode code 865 = .ok (.invokevirtual 101, 3) := zdcg 14 zdT_dl_847 rfl
theorem dl_868 : decode code 868 = .ok (.pop2, 1) := zdcg 15 zdT_dl_847 rfl
theorem dl_869 : decode code 869 = .ok (.aload_n 2, 1) := zdcg 16 zdT_dl_847 rfl
theorem dl_870 : decode code 870 = .ok (.aload_n 0, 1) := zdcg 17 zdT_dl_847 rfl
theorem dl_871 : decode code 871 = .ok (.iload_n 3, 1) := zdcg 18 zdT_dl_847 rfl
theorem dl_872 : decode code 872 = .ok (.iconst 1, 1) := zdcg 19 zdT_dl_847 rfl
theorem dl_873 : decode code 873 = .ok (.iadd, 1) := zdcg 20 zdT_dl_847 rfl
theorem dl_874 : decode code 874 = .ok (.iaload, 1) := zdcg 21 zdT_dl_847 rfl
theorem dl_875 : decode code 875 = .ok (.aload_n 0, 1) := zdcg 22 zdT_dl_847 rfl
theorem dl_876 : decode code 876 = .ok (.iload_n 3, 1) := zdcg 23 zdT_dl_847 rfl
theorem dl_877 : decode code 877 = .ok (.iconst 2, 1) := zdcg 24 zdT_dl_847 rfl
theorem zdT_dl_878 : zdch code [(878, (.iadd, 1)), (879, (.iaload, 1)), (880, (.invokevirtual 104, 3)), (883, (.pop2, 1)), (884, (.goto 102, 3)), (887, (.aload_n 1, 1)), (888, (.aload_n 0, 1)), (889, (.iload_n 3, 1)), (890, (.iconst 1, 1)), (891, (.iadd, 1)), (892, (.iaload, 1)), (893, (.aload_n 0, 1)), (894, (.iload_n 3, 1)), (895, (.iconst 2, 1)), (896, (.iadd, 1)), (897, (.iaload, 1)), (898, (.invokevirtual 105, 3)), (901, (.pop, 1)), (902, (.aload_n 2, 1)), (903, (.aload_n 0, 1)), (904, (.iload_n 3, 1)), (905, (.iconst 1, 1)), (906, (.iadd, 1)), (907, (.iaload, 1)), (908, (.aload_n 0, 1))] = true := by decide +kernel
theorem dl_878 : decode code 878 = .ok (.iadd, 1) := zdcg 0 zdT_dl_878 rfl
theorem dl_879 : decode code 879 = .ok (.iaload, 1) := zdcg 1 zdT_dl_878 rfl
theorem dl_880 : decode code 880 = .ok (.invokevirtual 104, 3) := zdcg 2 zdT_dl_878 rfl
theorem dl_883 : decode code 883 = .ok (.pop2, 1) := zdcg 3 zdT_dl_878 rfl
theorem dl_884 : decode code 884 = .ok (.goto 102, 3) := zdcg 4 zdT_dl_878 rfl
theorem dl_887 : decode code 887 = .ok (.aload_n 1, 1) := zdcg 5 zdT_dl_878 rfl
theorem dl_888 : decode code 888 = .ok (.aload_n 0, 1) := zdcg 6 zdT_dl_878 rfl
theorem dl_889 : decode code 889 = .ok (.iload_n 3, 1) := zdcg 7 zdT_dl_878 rfl
theorem dl_890 : decode code 890 = .ok (.iconst 1, 1) := zdcg 8 zdT_dl_878 rfl
theorem dl_891 : decode code 891 = .ok (.iadd, 1) := zdcg 9 zdT_dl_878 rfl
theorem dl_892 : decode code 892 = .ok (.iaload, 1) := zdcg 10 zdT_dl_878 rfl
theorem dl_893 : decode code 893 = .ok (.aload_n 0, 1) := zdcg 11 zdT_dl_878 rfl
theorem dl_894 : decode code 894 = .ok (.iload_n 3, 1) := zdcg 12 zdT_dl_878 rfl
theorem dl_895 : decode code 895 = .ok (.iconst 2, 1) := zdcg 13 zdT_dl_878 rfl
theorem dl_896 : decode code 896 = .ok (.iadd, 1) := zdcg 14 zdT_dl_878 rfl
theorem dl_897 : decode code 897 = .ok (.iaload, 1) := zdcg 15 zdT_dl_878 rfl
theorem dl_898 : decode code 898 = .ok (.invokevirtual 105, 3) := zdcg 16 zdT_dl_878 rfl
theorem dl_901 : decode code 901 = .ok (.pop, 1) := zdcg 17 zdT_dl_878 rfl
theorem dl_902 : decode code 902 = .ok (.aload_n 2, 1) := zdcg 18 zdT_dl_878 rfl
theorem dl_903 : decode code 903 = .ok (.aload_n 0, 1) := zdcg 19 zdT_dl_878 rfl
theorem dl_904 : decode code 904 = .ok (.iload_n 3, 1) := zdcg 20 zdT_dl_878 rfl
theorem dl_905 : decode code 905 = .ok (.iconst 1, 1) := zdcg 21 zdT_dl_878 rfl
theorem dl_906 : decode code 906 = .ok (.iadd, 1) := zdcg 22 zdT_dl_878 rfl
theorem dl_907 : decode code 907 = .ok (.iaload, 1) := zdcg 23 zdT_dl_878 rfl
theorem dl_908 : decode code 908 = .ok (.aload_n 0, 1) := zdcg 24 zdT_dl_878 rfl
theorem zdT_dl_909 : zdch code [(909, (.iload_n 3, 1)), (910, (.iconst 2, 1)), (911, (.iadd, 1)), (912, (.iaload, 1)), (913, (.invokevirtual 108, 3)), (916, (.pop, 1)), (917, (.goto 69, 3)), (920, (.aload_n 1, 1)), (921, (.aload_n 0, 1)), (922, (.iload_n 3, 1)), (923, (.iconst 1, 1)), (924, (.iadd, 1)), (925, (.iaload, 1)), (926, (.aload_n 0, 1)), (927, (.iload_n 3, 1)), (928, (.iconst 2, 1)), (929, (.iadd, 1)), (930, (.iaload, 1)), (931, (.aload_n 0, 1)), (932, (.iload_n 3, 1)), (933, (.iconst 3, 1)), (934, (.iadd, 1)), (935, (.iaload, 1)), (936, (.invokevirtual 109, 3)), (939, (.pop, 1))] = true := by decide +kernel
theorem dl_909 : decode code 909 = .ok (.iload_n 3, 1) := zdcg 0 zdT_dl_909 rfl
theorem dl_910 : decode code 910 = .ok (.iconst 2, 1) := zdcg 1 zdT_dl_909 rfl
theorem dl_911 : decode code 911 = .ok (.iadd, 1) := zdcg 2 zdT_dl_909 rfl
theorem dl_912 : decode code 912 = .ok (.iaload, 1) := zdcg 3 zdT_dl_909 rfl
theorem dl_913 : decode code 913 = .ok (.invokevirtual 108, 3) := zdcg 4 zdT_dl_909 rfl
theorem dl_916 : decode code 916 = .ok (.pop, 1) := zdcg 5 zdT_dl_909 rfl
theorem dl_917 : decode code 917 = .ok (.goto 69, 3) := zdcg 6 zdT_dl_909 rfl
theorem dl_920 : decode code 920 = .ok (.aload_n 1, 1) := zdcg 7 zdT_dl_909 rfl
theorem dl_921 : decode code 921 = .ok (.aload_n 0, 1) := zdcg 8 zdT_dl_909 rfl
theorem dl_922 : decode code 922 = .ok (.iload_n 3, 1) := zdcg 9 zdT_dl_909 rfl
theorem dl_923 : decode code 923 = .ok (.iconst 1, 1) := zdcg 10 zdT_dl_909 rfl
theorem dl_924 : decode code 924 = .ok (.iadd, 1) := zdcg 11 zdT_dl_909 rfl
theorem dl_925 : decode code 925 = .ok (.iaload, 1) := zdcg 12 zdT_dl_909 rfl
theorem dl_926 : decode code 926 = .ok (.aload_n 0, 1) := zdcg 13 zdT_dl_909 rfl
theorem dl_927 : decode code 927 = .ok (.iload_n 3, 1) := zdcg 14 zdT_dl_909 rfl
theorem dl_928 : decode code 928 = .ok (.iconst 2, 1) := zdcg 15 zdT_dl_909 rfl
theorem dl_929 : decode code 929 = .ok (.iadd, 1) := zdcg 16 zdT_dl_909 rfl
theorem dl_930 : decode code 930 = .ok (.iaload, 1) := zdcg 17 zdT_dl_909 rfl
theorem dl_931 : decode code 931 = .ok (.aload_n 0, 1) := zdcg 18 zdT_dl_909 rfl
theorem dl_932 : decode code 932 = .ok (.iload_n 3, 1) := zdcg 19 zdT_dl_909 rfl
theorem dl_933 : decode code 933 = .ok (.iconst 3, 1) := zdcg 20 zdT_dl_909 rfl
theorem dl_934 : decode code 934 = .ok (.iadd, 1) := zdcg 21 zdT_dl_909 rfl
theorem dl_935 : decode code 935 = .ok (.iaload, 1) := zdcg 22 zdT_dl_909 rfl
theorem dl_936 : decode code 936 = .ok (.invokevirtual 109, 3) := zdcg 23 zdT_dl_909 rfl
theorem dl_939 : decode code 939 = .ok (.pop, 1) := zdcg 24 zdT_dl_909 rfl
theorem zdT_dl_940 : zdch code [(940, (.aload_n 2, 1)), (941, (.aload_n 0, 1)), (942, (.iload_n 3, 1)), (943, (.iconst 1, 1)), (944, (.iadd, 1)), (945, (.iaload, 1)), (946, (.aload_n 0, 1)), (947, (.iload_n 3, 1)), (948, (.iconst 2, 1)), (949, (.iadd, 1)), (950, (.iaload, 1)), (951, (.aload_n 0, 1)), (952, (.iload_n 3, 1)), (953, (.iconst 3, 1)), (954, (.iadd, 1)), (955, (.iaload, 1)), (956, (.invokevirtual 112, 3)), (959, (.pop, 1)), (960, (.goto 26, 3)), (963, (.aload_n 1, 1)), (964, (.aload_n 0, 1)), (965, (.iload_n 3, 1)), (966, (.iconst 1, 1)), (967, (.iadd, 1)), (968, (.iaload, 1))] = true := by decide +kernel
theorem dl_940 : decode code 940 = .ok (.aload_n 2, 1) := zdcg 0 zdT_dl_940 rfl
theorem dl_941 : decode code 941 = .ok (.aload_n 0, 1) := zdcg 1 zdT_dl_940 rfl
theorem dl_942 : decode code 942 = .ok (.iload_n 3, 1) := zdcg 2 zdT_dl_940 rfl
theorem dl_943 : decode code 943 = .ok (.iconst 1, 1) := zdcg 3 zdT_dl_940 rfl
theorem dl_944 : decode code 944 = .ok (.iadd, 1) := zdcg 4 zdT_dl_940 rfl
theorem dl_945 : decode code 945 = .ok (.iaload, 1) := zdcg 5 zdT_dl_940 rfl
theorem dl_946 : decode code 946 = .ok (.aload_n 0, 1) := zdcg 6 zdT_dl_940 rfl
theorem dl_947 : decode code 947 = .ok (.iload_n 3, 1) := zdcg 7 zdT_dl_940 rfl
theorem dl_948 : decode code 948 = .ok (.iconst 2, 1) := zdcg 8 zdT_dl_940 rfl
theorem dl_949 : decode code 949 = .ok (.iadd, 1) := zdcg 9 zdT_dl_940 rfl
theorem dl_950 : decode code 950 = .ok (.iaload, 1) := zdcg 10 zdT_dl_940 rfl
theorem dl_951 : decode code 951 = .ok (.aload_n 0, 1) := zdcg 11 zdT_dl_940 rfl
theorem dl_952 : decode code 952 = .ok (.iload_n 3, 1) := zdcg 12 zdT_dl_940 rfl
theorem dl_953 : decode code 953 = .ok (.iconst 3, 1) := zdcg 13 zdT_dl_940 rfl
theorem dl_954 : decode code 954 = .ok (.iadd, 1) := zdcg 14 zdT_dl_940 rfl
theorem dl_955 : decode code 955 = .ok (.iaload, 1) := zdcg 15 zdT_dl_940 rfl
theorem dl_956 : decode code 956 = .ok (.invokevirtual 112, 3) := zdcg 16 zdT_dl_940 rfl
theorem dl_959 : decode code 959 = .ok (.pop, 1) := zdcg 17 zdT_dl_940 rfl
theorem dl_960 : decode code 960 = .ok (.goto 26, 3) := zdcg 18 zdT_dl_940 rfl
theorem dl_963 : decode code 963 = .ok (.aload_n 1, 1) := zdcg 19 zdT_dl_940 rfl
theorem dl_964 : decode code 964 = .ok (.aload_n 0, 1) := zdcg 20 zdT_dl_940 rfl
theorem dl_965 : decode code 965 = .ok (.iload_n 3, 1) := zdcg 21 zdT_dl_940 rfl
theorem dl_966 : decode code 966 = .ok (.iconst 1, 1) := zdcg 22 zdT_dl_940 rfl
theorem dl_967 : decode code 967 = .ok (.iadd, 1) := zdcg 23 zdT_dl_940 rfl
theorem dl_968 : decode code 968 = .ok (.iaload, 1) := zdcg 24 zdT_dl_940 rfl
theorem zdT_dl_969 : zdch code [(969, (.invokevirtual 113, 3)), (972, (.pop, 1)), (973, (.aload_n 2, 1)), (974, (.aload_n 0, 1)), (975, (.iload_n 3, 1)), (976, (.iconst 1, 1)), (977, (.iadd, 1)), (978, (.iaload, 1)), (979, (.invokevirtual 116, 3)), (982, (.pop, 1)), (983, (.goto 3, 3)), (986, (.iinc 3 6, 3)), (989, (.goto (-971), 3)), (992, (.iconst 1, 1)), (993, (.ireturn, 1))] = true := by decide +kernel
theorem dl_969 : decode code 969 = .ok (.invokevirtual 113, 3) := zdcg 0 zdT_dl_969 rfl
theorem dl_972 : decode code 972 = .ok (.pop, 1) := zdcg 1 zdT_dl_969 rfl
theorem dl_973 : decode code 973 = .ok (.aload_n 2, 1) := zdcg 2 zdT_dl_969 rfl
theorem dl_974 : decode code 974 = .ok (.aload_n 0, 1) := zdcg 3 zdT_dl_969 rfl
theorem dl_975 : decode code 975 = .ok (.iload_n 3, 1) := zdcg 4 zdT_dl_969 rfl
theorem dl_976 : decode code 976 = .ok (.iconst 1, 1) := zdcg 5 zdT_dl_969 rfl
theorem dl_977 : decode code 977 = .ok (.iadd, 1) := zdcg 6 zdT_dl_969 rfl
theorem dl_978 : decode code 978 = .ok (.iaload, 1) := zdcg 7 zdT_dl_969 rfl
theorem dl_979 : decode code 979 = .ok (.invokevirtual 116, 3) := zdcg 8 zdT_dl_969 rfl
theorem dl_982 : decode code 982 = .ok (.pop, 1) := zdcg 9 zdT_dl_969 rfl
theorem dl_983 : decode code 983 = .ok (.goto 3, 3) := zdcg 10 zdT_dl_969 rfl
theorem dl_986 : decode code 986 = .ok (.iinc 3 6, 3) := zdcg 11 zdT_dl_969 rfl
theorem dl_989 : decode code 989 = .ok (.goto (-971), 3) := zdcg 12 zdT_dl_969 rfl
theorem dl_992 : decode code 992 = .ok (.iconst 1, 1) := zdcg 13 zdT_dl_969 rfl
theorem dl_993 : decode code 993 = .ok (.ireturn, 1) := zdcg 14 zdT_dl_969 rfl
end
