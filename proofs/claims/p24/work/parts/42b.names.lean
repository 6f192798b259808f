theorem dL_build_390 : decode cL_build 390 = .ok (.iaload, 1) := by decide +kernel
theorem dL_build_391 : decode cL_build 391 = .ok (.invokestatic 15, 3) := by decide +kernel
theorem dL_build_394 : decode cL_build 394 = .ok (.istore 11, 2) := by decide +kernel
theorem dL_build_396 : decode cL_build 396 = .ok (.iload 10, 2) := by decide +kernel
theorem dL_build_398 : decode cL_build 398 = .ok (.iconst 2, 1) := by decide +kernel
theorem dL_build_399 : decode cL_build 399 = .ok (.ishr, 1) := by decide +kernel
theorem dL_build_400 : decode cL_build 400 = .ok (.aload 7, 2) := by decide +kernel
theorem dL_build_402 : decode cL_build 402 = .ok (.iconst 0, 1) := by decide +kernel
theorem dL_build_403 : decode cL_build 403 = .ok (.iaload, 1) := by decide +kernel
theorem dL_build_404 : decode cL_build 404 = .ok (.invokestatic 15, 3) := by decide +kernel
theorem dL_build_407 : decode cL_build 407 = .ok (.istore 12, 2) := by decide +kernel
theorem dL_build_409 : decode cL_build 409 = .ok (.iload 10, 2) := by decide +kernel
theorem dL_build_411 : decode cL_build 411 = .ok (.iconst 4, 1) := by decide +kernel
theorem dL_build_412 : decode cL_build 412 = .ok (.ishr, 1) := by decide +kernel
theorem dL_build_413 : decode cL_build 413 = .ok (.bipush 80, 2) := by decide +kernel
theorem dL_build_415 : decode cL_build 415 = .ok (.invokestatic 15, 3) := by decide +kernel
theorem dL_build_418 : decode cL_build 418 = .ok (.istore 13, 2) := by decide +kernel
theorem dL_build_420 : decode cL_build 420 = .ok (.iload 13, 2) := by decide +kernel
theorem dL_build_422 : decode cL_build 422 = .ok (.iconst 1, 1) := by decide +kernel
theorem dL_build_423 : decode cL_build 423 = .ok (.iadd, 1) := by decide +kernel
theorem dL_build_424 : decode cL_build 424 = .ok (.iload 10, 2) := by decide +kernel
theorem dL_build_426 : decode cL_build 426 = .ok (.bipush 7, 2) := by decide +kernel
theorem dL_build_428 : decode cL_build 428 = .ok (.ishr, 1) := by decide +kernel
theorem dL_build_429 : decode cL_build 429 = .ok (.bipush 40, 2) := by decide +kernel
theorem dL_build_431 : decode cL_build 431 = .ok (.invokestatic 15, 3) := by decide +kernel
theorem dL_build_434 : decode cL_build 434 = .ok (.iadd, 1) := by decide +kernel
theorem dL_build_435 : decode cL_build 435 = .ok (.istore 14, 2) := by decide +kernel
theorem dL_build_437 : decode cL_build 437 = .ok (.iconst 5, 1) := by decide +kernel
theorem dL_build_438 : decode cL_build 438 = .ok (.aload 7, 2) := by decide +kernel
theorem dL_build_440 : decode cL_build 440 = .ok (.iconst 2, 1) := by decide +kernel
theorem dL_build_441 : decode cL_build 441 = .ok (.iaload, 1) := by decide +kernel
theorem dL_build_442 : decode cL_build 442 = .ok (.imul, 1) := by decide +kernel
theorem dL_build_443 : decode cL_build 443 = .ok (.istore 15, 2) := by decide +kernel
theorem dL_build_445 : decode cL_build 445 = .ok (.bipush (-2), 2) := by decide +kernel
theorem dL_build_447 : decode cL_build 447 = .ok (.istore 16, 2) := by decide +kernel
theorem dL_build_449 : decode cL_build 449 = .ok (.aload_n 0, 1) := by decide +kernel
theorem dL_build_450 : decode cL_build 450 = .ok (.iload 11, 2) := by decide +kernel
theorem dL_build_452 : decode cL_build 452 = .ok (.iload 12, 2) := by decide +kernel
theorem dL_build_454 : decode cL_build 454 = .ok (.iload 13, 2) := by decide +kernel
theorem dL_build_456 : decode cL_build 456 = .ok (.iload 14, 2) := by decide +kernel
theorem dL_build_458 : decode cL_build 458 = .ok (.invokevirtual 29, 3) := by decide +kernel
theorem dL_build_461 : decode cL_build 461 = .ok (.istore 16, 2) := by decide +kernel
theorem dL_build_463 : decode cL_build 463 = .ok (.goto 9, 3) := by decide +kernel
theorem dL_build_466 : decode cL_build 466 = .ok (.astore 17, 2) := by decide +kernel
theorem dL_build_468 : decode cL_build 468 = .ok (.bipush (-2), 2) := by decide +kernel
theorem dL_build_470 : decode cL_build 470 = .ok (.istore 16, 2) := by decide +kernel
theorem dL_build_472 : decode cL_build 472 = .ok (.aload 4, 2) := by decide +kernel
theorem dL_build_474 : decode cL_build 474 = .ok (.iconst 3, 1) := by decide +kernel
theorem dL_build_475 : decode cL_build 475 = .ok (.iload 12, 2) := by decide +kernel
theorem dL_build_477 : decode cL_build 477 = .ok (.imul, 1) := by decide +kernel
theorem dL_build_478 : decode cL_build 478 = .ok (.iaload, 1) := by decide +kernel
theorem dL_build_479 : decode cL_build 479 = .ok (.aload 5, 2) := by decide +kernel
theorem dL_build_481 : decode cL_build 481 = .ok (.iconst 4, 1) := by decide +kernel
theorem dL_build_482 : decode cL_build 482 = .ok (.iload 11, 2) := by decide +kernel
theorem dL_build_484 : decode cL_build 484 = .ok (.imul, 1) := by decide +kernel
theorem dL_build_485 : decode cL_build 485 = .ok (.iaload, 1) := by decide +kernel
theorem dL_build_486 : decode cL_build 486 = .ok (.ishr, 1) := by decide +kernel
theorem dL_build_487 : decode cL_build 487 = .ok (.iconst 1, 1) := by decide +kernel
theorem dL_build_488 : decode cL_build 488 = .ok (.iand, 1) := by decide +kernel
theorem dL_build_489 : decode cL_build 489 = .ok (.iconst 1, 1) := by decide +kernel
theorem dL_build_490 : decode cL_build 490 = .ok (.if_icmp .ne 7, 3) := by decide +kernel
theorem dL_build_493 : decode cL_build 493 = .ok (.iconst 1, 1) := by decide +kernel
theorem dL_build_494 : decode cL_build 494 = .ok (.goto 4, 3) := by decide +kernel
theorem dL_build_497 : decode cL_build 497 = .ok (.iconst 0, 1) := by decide +kernel
theorem dL_build_498 : decode cL_build 498 = .ok (.istore 17, 2) := by decide +kernel
theorem dL_build_500 : decode cL_build 500 = .ok (.iload 16, 2) := by decide +kernel
theorem dL_build_502 : decode cL_build 502 = .ok (.iload 17, 2) := by decide +kernel
theorem dL_build_504 : decode cL_build 504 = .ok (.ifCond .eq 10, 3) := by decide +kernel
theorem dL_build_507 : decode cL_build 507 = .ok (.aload 7, 2) := by decide +kernel
theorem dL_build_509 : decode cL_build 509 = .ok (.iconst 2, 1) := by decide +kernel
theorem dL_build_510 : decode cL_build 510 = .ok (.iaload, 1) := by decide +kernel
theorem dL_build_511 : decode cL_build 511 = .ok (.goto 5, 3) := by decide +kernel
theorem dL_build_514 : decode cL_build 514 = .ok (.bipush (-2), 2) := by decide +kernel
theorem dL_build_516 : decode cL_build 516 = .ok (.if_icmp .eq 5, 3) := by decide +kernel
theorem dL_build_519 : decode cL_build 519 = .ok (.aconst_null, 1) := by decide +kernel
theorem dL_build_520 : decode cL_build 520 = .ok (.areturn, 1) := by decide +kernel
theorem dL_build_521 : decode cL_build 521 = .ok (.iload 17, 2) := by decide +kernel
theorem dL_build_523 : decode cL_build 523 = .ok (.ifCond .ne 6, 3) := by decide +kernel
theorem dL_build_526 : decode cL_build 526 = .ok (.goto 45, 3) := by decide +kernel
theorem dL_build_529 : decode cL_build 529 = .ok (.aload 6, 2) := by decide +kernel
theorem dL_build_531 : decode cL_build 531 = .ok (.iload 15, 2) := by decide +kernel
theorem dL_build_533 : decode cL_build 533 = .ok (.iload 11, 2) := by decide +kernel
theorem dL_build_535 : decode cL_build 535 = .ok (.iastore, 1) := by decide +kernel
theorem dL_build_536 : decode cL_build 536 = .ok (.aload 6, 2) := by decide +kernel
theorem dL_build_538 : decode cL_build 538 = .ok (.iload 15, 2) := by decide +kernel
theorem dL_build_540 : decode cL_build 540 = .ok (.iconst 1, 1) := by decide +kernel
theorem dL_build_541 : decode cL_build 541 = .ok (.iadd, 1) := by decide +kernel
theorem dL_build_542 : decode cL_build 542 = .ok (.iload 12, 2) := by decide +kernel
theorem dL_build_544 : decode cL_build 544 = .ok (.iastore, 1) := by decide +kernel
theorem dL_build_545 : decode cL_build 545 = .ok (.aload 6, 2) := by decide +kernel
theorem dL_build_547 : decode cL_build 547 = .ok (.iload 15, 2) := by decide +kernel
theorem dL_build_549 : decode cL_build 549 = .ok (.iconst 2, 1) := by decide +kernel
theorem dL_build_550 : decode cL_build 550 = .ok (.iadd, 1) := by decide +kernel
theorem dL_build_551 : decode cL_build 551 = .ok (.iload 13, 2) := by decide +kernel
theorem dL_build_553 : decode cL_build 553 = .ok (.iastore, 1) := by decide +kernel
theorem dL_build_554 : decode cL_build 554 = .ok (.aload 6, 2) := by decide +kernel
theorem dL_build_556 : decode cL_build 556 = .ok (.iload 15, 2) := by decide +kernel
theorem dL_build_558 : decode cL_build 558 = .ok (.iconst 3, 1) := by decide +kernel
theorem dL_build_559 : decode cL_build 559 = .ok (.iadd, 1) := by decide +kernel
theorem dL_build_560 : decode cL_build 560 = .ok (.iload 14, 2) := by decide +kernel
theorem dL_build_562 : decode cL_build 562 = .ok (.iastore, 1) := by decide +kernel
theorem dL_build_563 : decode cL_build 563 = .ok (.aload 7, 2) := by decide +kernel
theorem dL_build_565 : decode cL_build 565 = .ok (.iconst 2, 1) := by decide +kernel
theorem dL_build_566 : decode cL_build 566 = .ok (.dup2, 1) := by decide +kernel
theorem dL_build_567 : decode cL_build 567 = .ok (.iaload, 1) := by decide +kernel
theorem dL_build_568 : decode cL_build 568 = .ok (.iconst 1, 1) := by decide +kernel
theorem dL_build_569 : decode cL_build 569 = .ok (.iadd, 1) := by decide +kernel
theorem dL_build_570 : decode cL_build 570 = .ok (.iastore, 1) := by decide +kernel
theorem dL_build_571 : decode cL_build 571 = .ok (.iinc 9 1, 3) := by decide +kernel
theorem dL_build_574 : decode cL_build 574 = .ok (.goto (-218), 3) := by decide +kernel
theorem dL_build_577 : decode cL_build 577 = .ok (.iconst 0, 1) := by decide +kernel
theorem dL_build_578 : decode cL_build 578 = .ok (.istore 9, 2) := by decide +kernel
theorem dL_build_580 : decode cL_build 580 = .ok (.iload 9, 2) := by decide +kernel
theorem dL_build_582 : decode cL_build 582 = .ok (.iconst 3, 1) := by decide +kernel
theorem dL_build_583 : decode cL_build 583 = .ok (.if_icmp .ge 25, 3) := by decide +kernel
theorem dL_build_586 : decode cL_build 586 = .ok (.aload_n 0, 1) := by decide +kernel
theorem dL_build_587 : decode cL_build 587 = .ok (.iload 9, 2) := by decide +kernel
theorem dL_build_589 : decode cL_build 589 = .ok (.invokevirtual 34, 3) := by decide +kernel
theorem dL_build_592 : decode cL_build 592 = .ok (.aload 7, 2) := by decide +kernel
theorem dL_build_594 : decode cL_build 594 = .ok (.iload 9, 2) := by decide +kernel
theorem dL_build_596 : decode cL_build 596 = .ok (.iaload, 1) := by decide +kernel
theorem dL_build_597 : decode cL_build 597 = .ok (.if_icmp .eq 5, 3) := by decide +kernel
theorem dL_build_600 : decode cL_build 600 = .ok (.aconst_null, 1) := by decide +kernel
theorem dL_build_601 : decode cL_build 601 = .ok (.areturn, 1) := by decide +kernel
theorem dL_build_602 : decode cL_build 602 = .ok (.iinc 9 1, 3) := by decide +kernel
theorem dL_build_605 : decode cL_build 605 = .ok (.goto (-25), 3) := by decide +kernel
theorem dL_build_608 : decode cL_build 608 = .ok (.aload 7, 2) := by decide +kernel
theorem dL_build_610 : decode cL_build 610 = .ok (.areturn, 1) := by decide +kernel
set_option maxRecDepth 20000 in
theorem ggL_law_X5_init : GoodIn wsL_law wsX5_init := goodIn_r _ [6, 7, 8, 9, 10, 11, 12, 13, 14, 15, 16, 17, 18, 19, 20, 21, 22, 23, 24, 25, 26, 27, 28, 29, 30, 31, 32, 33, 34, 35, 36, 37, 38, 39, 40, 3, 41, 42, 389, 390, 391, 382, 383, 384, 385, 386, 387, 388, 392, 393, 394, 395] (by decide +kernel) (by decide +kernel)
set_option maxRecDepth 20000 in
theorem gL_law_X5_init : GoodIn wsL_law (wsX5_init) := ggL_law_X5_init
set_option maxRecDepth 20000 in
theorem ggL_law_L_build : GoodIn wsL_law wsL_build := by
  have q9 := goodIn_app (goodIn_r (big := wsL_law) [Cond.codeWith yL_build cL_build 18 (some (.array .int)) [(449, 463, 466, 32)]] [46] (by decide +kernel) (by decide +kernel)) (goodIn_app (goodIn_app (goodIn_app (goodIn_app (goodIn_app (goodIn_app (goodIn_r (big := wsL_law) wsL_build_r1 [47, 3, 48, 49, 45, 50, 51, 52, 53, 54, 55, 56, 57, 58, 2, 59, 60, 61, 62, 63, 13, 64, 65, 66] (by decide +kernel) (by decide +kernel)) (goodIn_app (goodIn_r (big := wsL_law) wsL_build_r2 [67, 68, 69, 70, 71, 72, 12, 73, 74, 75, 76, 77, 78, 8, 9, 79, 80, 81, 82, 83, 84, 85, 86, 87] (by decide +kernel) (by decide +kernel)) (goodIn_app (goodIn_r (big := wsL_law) wsL_build_r3 [88, 89, 27, 90, 91, 92, 93, 94, 95, 96, 97, 98, 99, 100, 101, 26, 102, 103, 104, 105, 106, 107, 108, 109] (by decide +kernel) (by decide +kernel)) (goodIn_app (goodIn_r (big := wsL_law) wsL_build_r4 [110, 111, 112, 113, 114, 115, 116, 117, 118, 119, 120, 121, 122, 123, 124, 125, 126, 127, 128, 129, 130, 131, 132, 133] (by decide +kernel) (by decide +kernel)) (goodIn_app (goodIn_r (big := wsL_law) wsL_build_r5 [134, 135, 136, 137, 138, 139, 140, 14, 141, 142, 143, 144, 145, 146, 147, 148, 149, 150, 151, 152, 153, 154, 155, 156] (by decide +kernel) (by decide +kernel)) (goodIn_app (goodIn_r (big := wsL_law) wsL_build_r6 [157, 158, 159, 160, 161, 15, 162, 163, 164, 165, 166, 167, 168, 169, 170, 171, 172, 173, 174, 175, 176, 177, 178, 179] (by decide +kernel) (by decide +kernel)) (goodIn_app (goodIn_r (big := wsL_law) wsL_build_r7 [180, 181, 182, 183, 184, 185, 186, 187, 188, 189, 190, 191, 192, 193, 194, 195, 196, 21, 197, 198, 199, 200, 201, 202] (by decide +kernel) (by decide +kernel)) (goodIn_r (big := wsL_law) wsL_build_r8 [203, 204, 205, 206, 207, 208, 209, 210, 211, 212, 213, 214] (by decide +kernel) (by decide +kernel))))))))) (goodIn_r (big := wsL_law) wsX50 [382, 383, 384, 385, 386, 387, 388] (by decide +kernel) (by decide +kernel))) (goodIn_r (big := wsL_law) wsX00 [396, 397, 398, 399, 400] (by decide +kernel) (by decide +kernel))) (goodIn_r (big := wsL_law) wsJx4a65c0 [389, 390, 391] (by decide +kernel) (by decide +kernel))) (goodIn_r (big := wsL_law) wsX30 [401, 402, 403, 404, 405, 406, 407, 408] (by decide +kernel) (by decide +kernel))) (goodIn_r (big := wsL_law) wsX20 [409, 410, 411, 412, 413, 414, 415] (by decide +kernel) (by decide +kernel)))
  exact goodIn_ca (goodIn_ca (goodIn_ca (q9) (goodIn_sub (fun _ h => List.mem_append_left _ (List.mem_append_left _ (List.mem_append_right _ h))) (by decide +kernel))) (goodIn_sub (fun _ h => List.mem_append_left _ (List.mem_append_right _ h)) (by decide +kernel))) (goodIn_sub (fun _ h => List.mem_append_right _ h) (by decide +kernel))
set_option maxRecDepth 20000 in
theorem gL_law_L_build : GoodIn wsL_law (va_wsS RL 47 yL_build wsL_build) := goodIn_app (goodIn_of _ (by decide +kernel)) ggL_law_L_build
set_option maxRecDepth 20000 in
theorem ggL_law_X5_best : GoodIn wsL_law wsX5_best := goodIn_r _ [218, 20, 219, 220, 221, 222, 2, 223, 15, 224, 225, 226, 227, 70, 71, 72, 12, 73, 74, 172, 173, 174, 175, 176, 177, 178, 179, 180, 181, 182, 183, 184, 185, 186, 187, 27, 228, 229, 230, 164, 231, 207, 232, 210, 209, 233, 234, 235, 236, 237, 238, 239, 240, 241, 242, 243, 244, 245, 22, 246, 247, 248, 249, 206, 250, 251, 252, 253, 254, 21, 255, 256, 257, 258, 16, 259, 260, 261, 262, 263, 264, 265, 266, 267, 268, 269, 270, 271, 272, 273, 274, 275, 276, 277, 19, 278, 279, 280, 281, 282, 283, 284, 285, 286, 287, 288, 289, 290, 291, 292, 293, 294, 295, 41, 198, 199, 197, 382, 383, 384, 385, 386, 387, 388, 392, 393, 394, 395, 389, 390, 391, 409, 410, 411, 412, 413, 414, 415, 401, 402, 403, 404, 405, 406, 407, 408, 396, 397, 398, 399, 400] (by decide +kernel) (by decide +kernel)
set_option maxRecDepth 20000 in
theorem gL_law_X5_best : GoodIn wsL_law (wsV RL 51 RX5 yX5_best wsX5_best) := goodIn_app (goodIn_of _ (by decide +kernel)) ggL_law_X5_best
set_option maxRecDepth 20000 in
theorem ggL_law_X5_weight : GoodIn wsL_law wsX5_weight := goodIn_ca (goodIn_r _ [299, 15, 224, 300, 301, 302, 2, 303, 60, 61, 70, 71, 72, 12, 73, 74, 197, 198, 199, 172, 173, 174, 175, 176, 177, 178, 179, 180, 181, 182, 183, 184, 185, 186, 187, 27, 228, 229, 230, 164, 231, 207, 232, 210, 209, 382, 383, 384, 385, 386, 387, 388, 389, 390, 391, 409, 410, 411, 412, 413, 414, 415, 401, 402, 403, 404, 405, 406, 407, 408] (by decide +kernel) (by decide +kernel)) (goodIn_sub (fun _ h => List.mem_append_left _ (List.mem_append_left _ (List.mem_append_right _ h))) (by decide +kernel))
set_option maxRecDepth 20000 in
theorem gL_law_X5_weight : GoodIn wsL_law (wsV RL 55 RX5 yX5_weight wsX5_weight) := goodIn_app (goodIn_of _ (by decide +kernel)) ggL_law_X5_weight
set_option maxRecDepth 20000 in
theorem ggL_law_X5_pass : GoodIn wsL_law wsX5_pass := goodIn_ca (goodIn_r _ [307, 169, 170, 245, 308, 241, 309, 242, 243, 254, 310, 311, 312, 313, 2, 314, 15, 224, 70, 71, 72, 12, 73, 74, 172, 173, 174, 175, 176, 177, 178, 179, 180, 181, 182, 183, 184, 185, 186, 187, 27, 228, 229, 230, 164, 231, 207, 232, 210, 209, 315, 316, 317, 318, 319, 103, 104, 105, 246, 247, 248, 249, 206, 409, 410, 411, 412, 413, 414, 415, 401, 402, 403, 404, 405, 406, 407, 408, 396, 397, 398, 399, 400, 382, 383, 384, 385, 386, 387, 388, 389, 390, 391] (by decide +kernel) (by decide +kernel)) (goodIn_sub (fun _ h => List.mem_append_right _ h) (by decide +kernel))
set_option maxRecDepth 20000 in
theorem gL_law_X5_pass : GoodIn wsL_law (wsV RL 58 RX5 yX5_pass wsX5_pass) := goodIn_app (goodIn_of _ (by decide +kernel)) ggL_law_X5_pass
set_option maxRecDepth 20000 in
theorem ggL_law_X5_canTake : GoodIn wsL_law wsX5_canTake := goodIn_ca (goodIn_r _ [323, 311, 312, 313, 2, 314, 169, 170, 15, 224, 70, 71, 72, 12, 73, 74, 172, 173, 174, 175, 176, 177, 178, 179, 180, 181, 182, 183, 184, 185, 186, 187, 27, 250, 251, 252, 253, 254, 242, 21, 241, 243, 255, 256, 257, 258, 16, 259, 260, 261, 262, 263, 264, 265, 266, 267, 268, 269, 270, 271, 237, 238, 239, 240, 244, 245, 22, 246, 247, 248, 164, 249, 209, 206, 382, 383, 384, 385, 386, 387, 388, 389, 390, 391, 409, 410, 411, 412, 413, 414, 415, 396, 397, 398, 399, 400] (by decide +kernel) (by decide +kernel)) (goodIn_sub (fun _ h => List.mem_append_right _ h) (by decide +kernel))
set_option maxRecDepth 20000 in
theorem gL_law_X5_canTake : GoodIn wsL_law (wsV RL 61 RX5 yX5_canTake wsX5_canTake) := goodIn_app (goodIn_of _ (by decide +kernel)) ggL_law_X5_canTake
set_option maxRecDepth 20000 in
theorem ggL_law_X5_isConflict : GoodIn wsL_law wsX5_isConflict := goodIn_ca (goodIn_ca (goodIn_r _ [327, 60, 61, 311, 312, 313, 2, 314, 169, 170, 15, 224, 70, 71, 72, 12, 73, 74, 172, 173, 174, 175, 176, 177, 178, 179, 180, 181, 182, 183, 184, 185, 186, 187, 27, 237, 238, 239, 240, 241, 242, 243, 244, 245, 22, 246, 247, 248, 164, 249, 209, 206, 382, 383, 384, 385, 386, 387, 388, 389, 390, 391, 409, 410, 411, 412, 413, 414, 415, 396, 397, 398, 399, 400] (by decide +kernel) (by decide +kernel)) (goodIn_sub (fun _ h => List.mem_append_left _ (List.mem_append_left _ (List.mem_append_right _ h))) (by decide +kernel))) (goodIn_sub (fun _ h => List.mem_append_right _ h) (by decide +kernel))
set_option maxRecDepth 20000 in
theorem gL_law_X5_isConflict : GoodIn wsL_law (wsV RL 65 RX5 yX5_isConflict wsX5_isConflict) := goodIn_app (goodIn_of _ (by decide +kernel)) ggL_law_X5_isConflict
set_option maxRecDepth 20000 in
theorem ggL_law_X5_taken : GoodIn wsL_law wsX5_taken := goodIn_r _ [331, 332, 333, 334, 2, 335, 15, 224, 254, 70, 71, 72, 12, 73, 74, 172, 173, 174, 175, 176, 177, 178, 179, 180, 181, 182, 183, 184, 185, 186, 187, 27, 382, 383, 384, 385, 386, 387, 388, 409, 410, 411, 412, 413, 414, 415, 389, 390, 391] (by decide +kernel) (by decide +kernel)
set_option maxRecDepth 20000 in
theorem gL_law_X5_taken : GoodIn wsL_law (wsV RL 69 RX5 yX5_taken wsX5_taken) := goodIn_app (goodIn_of _ (by decide +kernel)) ggL_law_X5_taken
set_option maxRecDepth 20000 in
theorem ggL_law_X5_take : GoodIn wsL_law wsX5_take := goodIn_ca (goodIn_ca (goodIn_r _ [339, 62, 63, 15, 224, 254, 300, 301, 302, 2, 303, 60, 61, 70, 71, 72, 12, 73, 74, 340, 341, 342, 343, 197, 198, 199, 172, 173, 174, 175, 176, 177, 178, 179, 180, 181, 182, 183, 184, 185, 186, 187, 27, 250, 251, 252, 253, 242, 21, 241, 243, 255, 256, 257, 258, 16, 259, 260, 261, 262, 263, 264, 265, 266, 267, 268, 269, 270, 271, 237, 238, 239, 240, 244, 245, 22, 246, 247, 248, 164, 249, 209, 206, 233, 234, 235, 236, 332, 333, 334, 335, 382, 383, 384, 385, 386, 387, 388, 409, 410, 411, 412, 413, 414, 415, 389, 390, 391, 396, 397, 398, 399, 400] (by decide +kernel) (by decide +kernel)) (goodIn_sub (fun _ h => List.mem_append_left _ (List.mem_append_right _ h)) (by decide +kernel))) (goodIn_sub (fun _ h => List.mem_append_left _ (List.mem_append_left _ (List.mem_append_right _ h))) (by decide +kernel))
set_option maxRecDepth 20000 in
theorem gL_law_X5_take : GoodIn wsL_law (wsV RL 72 RX5 yX5_take wsX5_take) := goodIn_app (goodIn_of _ (by decide +kernel)) ggL_law_X5_take
set_option maxRecDepth 20000 in
theorem ggL_law_X5_giveUp : GoodIn wsL_law wsX5_giveUp := goodIn_ca (goodIn_ca (goodIn_r _ [347, 62, 63, 254, 242, 21, 311, 312, 313, 2, 314, 169, 170, 15, 224, 70, 71, 72, 12, 73, 74, 172, 173, 174, 175, 176, 177, 178, 179, 180, 181, 182, 183, 184, 185, 186, 187, 27, 332, 333, 334, 335, 409, 410, 411, 412, 413, 414, 415, 382, 383, 384, 385, 386, 387, 388, 389, 390, 391] (by decide +kernel) (by decide +kernel)) (goodIn_sub (fun _ h => List.mem_append_left _ (List.mem_append_right _ h)) (by decide +kernel))) (goodIn_sub (fun _ h => List.mem_append_right _ h) (by decide +kernel))
set_option maxRecDepth 20000 in
theorem gL_law_X5_giveUp : GoodIn wsL_law (wsV RL 75 RX5 yX5_giveUp wsX5_giveUp) := goodIn_app (goodIn_of _ (by decide +kernel)) ggL_law_X5_giveUp
set_option maxRecDepth 20000 in
theorem ggL_law_L_cell : GoodIn wsL_law wsL_cell := goodIn_r _ [50, 51] (by decide +kernel) (by decide +kernel)
set_option maxRecDepth 20000 in
theorem gL_law_L_cell : GoodIn wsL_law (va_wsS RL 9 yL_cell wsL_cell) := goodIn_app (goodIn_of _ (by decide +kernel)) ggL_law_L_cell
set_option maxRecDepth 20000 in
theorem ggL_law_L_below : GoodIn wsL_law wsL_below := goodIn_r _ [54, 55] (by decide +kernel) (by decide +kernel)
set_option maxRecDepth 20000 in
theorem gL_law_L_below : GoodIn wsL_law (va_wsS RL 15 yL_below wsL_below) := goodIn_app (goodIn_of _ (by decide +kernel)) ggL_law_L_below
set_option maxRecDepth 20000 in
theorem ggL_law_X5_run : GoodIn wsL_law wsX5_run := goodIn_ca (goodIn_ca (goodIn_r _ [351, 60, 61, 62, 63, 21, 67, 68, 2, 69, 352, 353, 354, 355, 14, 171, 70, 71, 72, 12, 73, 74, 172, 173, 174, 175, 176, 177, 178, 179, 180, 181, 182, 183, 184, 185, 186, 187, 27, 356, 357, 358, 143, 359, 154, 155, 148, 360, 130, 104, 131, 149, 361, 362, 363, 364, 15, 224, 241, 365, 366, 367, 368, 254, 242, 243, 315, 316, 317, 318, 245, 319, 103, 105, 246, 247, 248, 164, 249, 209, 206, 255, 256, 257, 258, 16, 259, 260, 261, 262, 263, 264, 265, 266, 267, 369, 370, 371, 372, 208, 373, 207, 374, 375, 376, 377, 205, 382, 383, 384, 385, 386, 387, 388, 389, 390, 391, 401, 402, 403, 404, 405, 406, 407, 408, 409, 410, 411, 412, 413, 414, 415, 396, 397, 398, 399, 400] (by decide +kernel) (by decide +kernel)) (goodIn_sub (fun _ h => List.mem_append_left _ (List.mem_append_left _ (List.mem_append_right _ h))) (by decide +kernel))) (goodIn_sub (fun _ h => List.mem_append_left _ (List.mem_append_right _ h)) (by decide +kernel))
set_option maxRecDepth 20000 in
theorem gL_law_X5_run : GoodIn wsL_law (wsV RL 78 RX5 yX5_run wsX5_run) := goodIn_app (goodIn_of _ (by decide +kernel)) ggL_law_X5_run
set_option maxRecDepth 20000 in
theorem ggL_law_X5_setHandover : GoodIn wsL_law wsX5_setHandover := goodIn_ca (goodIn_r _ [381, 60, 61, 22, 67, 68, 2, 69, 382, 383, 384, 385, 386, 387, 388] (by decide +kernel) (by decide +kernel)) (goodIn_sub (fun _ h => List.mem_append_left _ (List.mem_append_left _ (List.mem_append_right _ h))) (by decide +kernel))
set_option maxRecDepth 20000 in
theorem gL_law_X5_setHandover : GoodIn wsL_law (wsV RL 81 RX5 yX5_setHandover wsX5_setHandover) := goodIn_app (goodIn_of _ (by decide +kernel)) ggL_law_X5_setHandover
theorem dL_law_0 : decode cL_law 0 = .ok (.new 20, 3) := by decide +kernel
theorem dL_law_3 : decode cL_law 3 = .ok (.dup, 1) := by decide +kernel
theorem dL_law_4 : decode cL_law 4 = .ok (.invokespecial 46, 3) := by decide +kernel
theorem dL_law_7 : decode cL_law 7 = .ok (.astore_n 1, 1) := by decide +kernel
theorem dL_law_8 : decode cL_law 8 = .ok (.bipush 32, 2) := by decide +kernel
theorem dL_law_10 : decode cL_law 10 = .ok (.newarray .int, 2) := by decide +kernel
theorem dL_law_12 : decode cL_law 12 = .ok (.astore_n 2, 1) := by decide +kernel
theorem dL_law_13 : decode cL_law 13 = .ok (.bipush 80, 2) := by decide +kernel
theorem dL_law_15 : decode cL_law 15 = .ok (.newarray .int, 2) := by decide +kernel
theorem dL_law_17 : decode cL_law 17 = .ok (.astore_n 3, 1) := by decide +kernel
theorem dL_law_18 : decode cL_law 18 = .ok (.aload_n 1, 1) := by decide +kernel
theorem dL_law_19 : decode cL_law 19 = .ok (.aload_n 0, 1) := by decide +kernel
theorem dL_law_20 : decode cL_law 20 = .ok (.iconst 0, 1) := by decide +kernel
theorem dL_law_21 : decode cL_law 21 = .ok (.bipush 12, 2) := by decide +kernel
theorem dL_law_23 : decode cL_law 23 = .ok (.bipush 15, 2) := by decide +kernel
theorem dL_law_25 : decode cL_law 25 = .ok (.newarray .int, 2) := by decide +kernel
theorem dL_law_27 : decode cL_law 27 = .ok (.aload_n 2, 1) := by decide +kernel
theorem dL_law_28 : decode cL_law 28 = .ok (.aload_n 3, 1) := by decide +kernel
theorem dL_law_29 : decode cL_law 29 = .ok (.invokestatic 47, 3) := by decide +kernel
theorem dL_law_32 : decode cL_law 32 = .ok (.astore 4, 2) := by decide +kernel
theorem dL_law_34 : decode cL_law 34 = .ok (.aload 4, 2) := by decide +kernel
theorem dL_law_36 : decode cL_law 36 = .ok (.ifnonnull 5, 3) := by decide +kernel
theorem dL_law_39 : decode cL_law 39 = .ok (.iconst 0, 1) := by decide +kernel
theorem dL_law_40 : decode cL_law 40 = .ok (.ireturn, 1) := by decide +kernel
theorem dL_law_41 : decode cL_law 41 = .ok (.iconst 0, 1) := by decide +kernel
theorem dL_law_42 : decode cL_law 42 = .ok (.istore 5, 2) := by decide +kernel
theorem dL_law_44 : decode cL_law 44 = .ok (.iload 5, 2) := by decide +kernel
theorem dL_law_46 : decode cL_law 46 = .ok (.iconst 4, 1) := by decide +kernel
theorem dL_law_47 : decode cL_law 47 = .ok (.if_icmp .ge 468, 3) := by decide +kernel
theorem dL_law_50 : decode cL_law 50 = .ok (.aload_n 1, 1) := by decide +kernel
theorem dL_law_51 : decode cL_law 51 = .ok (.invokevirtual 51, 3) := by decide +kernel
theorem dL_law_54 : decode cL_law 54 = .ok (.istore 6, 2) := by decide +kernel
theorem dL_law_56 : decode cL_law 56 = .ok (.aload_n 1, 1) := by decide +kernel
theorem dL_law_57 : decode cL_law 57 = .ok (.iload 6, 2) := by decide +kernel
theorem dL_law_59 : decode cL_law 59 = .ok (.invokevirtual 55, 3) := by decide +kernel
theorem dL_law_62 : decode cL_law 62 = .ok (.istore 7, 2) := by decide +kernel
theorem dL_law_64 : decode cL_law 64 = .ok (.iconst 0, 1) := by decide +kernel
theorem dL_law_65 : decode cL_law 65 = .ok (.istore 8, 2) := by decide +kernel
theorem dL_law_67 : decode cL_law 67 = .ok (.iconst 0, 1) := by decide +kernel
theorem dL_law_68 : decode cL_law 68 = .ok (.istore 9, 2) := by decide +kernel
theorem dL_law_70 : decode cL_law 70 = .ok (.iload 9, 2) := by decide +kernel
theorem dL_law_72 : decode cL_law 72 = .ok (.aload 4, 2) := by decide +kernel
theorem dL_law_74 : decode cL_law 74 = .ok (.iconst 2, 1) := by decide +kernel
theorem dL_law_75 : decode cL_law 75 = .ok (.iaload, 1) := by decide +kernel
theorem dL_law_76 : decode cL_law 76 = .ok (.if_icmp .ge 198, 3) := by decide +kernel
theorem dL_law_79 : decode cL_law 79 = .ok (.iload 6, 2) := by decide +kernel
theorem dL_law_81 : decode cL_law 81 = .ok (.iload 9, 2) := by decide +kernel
theorem dL_law_83 : decode cL_law 83 = .ok (.ishr, 1) := by decide +kernel
theorem dL_law_84 : decode cL_law 84 = .ok (.iconst 1, 1) := by decide +kernel
theorem dL_law_85 : decode cL_law 85 = .ok (.iand, 1) := by decide +kernel
theorem dL_law_86 : decode cL_law 86 = .ok (.iconst 1, 1) := by decide +kernel
theorem dL_law_87 : decode cL_law 87 = .ok (.if_icmp .ne 7, 3) := by decide +kernel
theorem dL_law_90 : decode cL_law 90 = .ok (.iconst 1, 1) := by decide +kernel
theorem dL_law_91 : decode cL_law 91 = .ok (.goto 4, 3) := by decide +kernel
theorem dL_law_94 : decode cL_law 94 = .ok (.iconst 0, 1) := by decide +kernel
theorem dL_law_95 : decode cL_law 95 = .ok (.istore 10, 2) := by decide +kernel
theorem dL_law_97 : decode cL_law 97 = .ok (.aload_n 1, 1) := by decide +kernel
theorem dL_law_98 : decode cL_law 98 = .ok (.iload 9, 2) := by decide +kernel
theorem dL_law_100 : decode cL_law 100 = .ok (.iconst 4, 1) := by decide +kernel
theorem dL_law_101 : decode cL_law 101 = .ok (.invokevirtual 58, 3) := by decide +kernel
theorem dL_law_104 : decode cL_law 104 = .ok (.istore 11, 2) := by decide +kernel
theorem dL_law_106 : decode cL_law 106 = .ok (.iload 11, 2) := by decide +kernel
theorem dL_law_108 : decode cL_law 108 = .ok (.aload_n 2, 1) := by decide +kernel
theorem dL_law_109 : decode cL_law 109 = .ok (.iconst 4, 1) := by decide +kernel
theorem dL_law_110 : decode cL_law 110 = .ok (.aload_n 3, 1) := by decide +kernel
theorem dL_law_111 : decode cL_law 111 = .ok (.iconst 5, 1) := by decide +kernel
theorem dL_law_112 : decode cL_law 112 = .ok (.iload 9, 2) := by decide +kernel
theorem dL_law_114 : decode cL_law 114 = .ok (.imul, 1) := by decide +kernel
theorem dL_law_115 : decode cL_law 115 = .ok (.iaload, 1) := by decide +kernel
theorem dL_law_116 : decode cL_law 116 = .ok (.imul, 1) := by decide +kernel
theorem dL_law_117 : decode cL_law 117 = .ok (.iconst 1, 1) := by decide +kernel
theorem dL_law_118 : decode cL_law 118 = .ok (.iadd, 1) := by decide +kernel
theorem dL_law_119 : decode cL_law 119 = .ok (.iaload, 1) := by decide +kernel
theorem dL_law_120 : decode cL_law 120 = .ok (.aload_n 3, 1) := by decide +kernel
theorem dL_law_121 : decode cL_law 121 = .ok (.iconst 5, 1) := by decide +kernel
theorem dL_law_122 : decode cL_law 122 = .ok (.iload 9, 2) := by decide +kernel
theorem dL_law_124 : decode cL_law 124 = .ok (.imul, 1) := by decide +kernel
theorem dL_law_125 : decode cL_law 125 = .ok (.iconst 3, 1) := by decide +kernel
theorem dL_law_126 : decode cL_law 126 = .ok (.iadd, 1) := by decide +kernel
theorem dL_law_127 : decode cL_law 127 = .ok (.iaload, 1) := by decide +kernel
theorem dL_law_128 : decode cL_law 128 = .ok (.aload_n 3, 1) := by decide +kernel
theorem dL_law_129 : decode cL_law 129 = .ok (.iconst 5, 1) := by decide +kernel
theorem dL_law_130 : decode cL_law 130 = .ok (.iload 9, 2) := by decide +kernel
theorem dL_law_132 : decode cL_law 132 = .ok (.imul, 1) := by decide +kernel
theorem dL_law_133 : decode cL_law 133 = .ok (.iconst 2, 1) := by decide +kernel
theorem dL_law_134 : decode cL_law 134 = .ok (.iadd, 1) := by decide +kernel
theorem dL_law_135 : decode cL_law 135 = .ok (.iaload, 1) := by decide +kernel
theorem dL_law_136 : decode cL_law 136 = .ok (.isub, 1) := by decide +kernel
theorem dL_law_137 : decode cL_law 137 = .ok (.imul, 1) := by decide +kernel
theorem dL_law_138 : decode cL_law 138 = .ok (.if_icmp .eq 5, 3) := by decide +kernel
theorem dL_law_141 : decode cL_law 141 = .ok (.iconst 0, 1) := by decide +kernel
theorem dL_law_142 : decode cL_law 142 = .ok (.ireturn, 1) := by decide +kernel
theorem dL_law_143 : decode cL_law 143 = .ok (.iload 8, 2) := by decide +kernel
theorem dL_law_145 : decode cL_law 145 = .ok (.iload 10, 2) := by decide +kernel
theorem dL_law_147 : decode cL_law 147 = .ok (.ifCond .eq 8, 3) := by decide +kernel
theorem dL_law_150 : decode cL_law 150 = .ok (.iload 11, 2) := by decide +kernel
theorem dL_law_152 : decode cL_law 152 = .ok (.goto 4, 3) := by decide +kernel
theorem dL_law_155 : decode cL_law 155 = .ok (.iconst 0, 1) := by decide +kernel
theorem dL_law_156 : decode cL_law 156 = .ok (.iadd, 1) := by decide +kernel
theorem dL_law_157 : decode cL_law 157 = .ok (.istore 8, 2) := by decide +kernel
theorem dL_law_159 : decode cL_law 159 = .ok (.iload 10, 2) := by decide +kernel
theorem dL_law_161 : decode cL_law 161 = .ok (.ifCond .eq 14, 3) := by decide +kernel
theorem dL_law_164 : decode cL_law 164 = .ok (.aload_n 1, 1) := by decide +kernel
theorem dL_law_165 : decode cL_law 165 = .ok (.iload 9, 2) := by decide +kernel
theorem dL_law_167 : decode cL_law 167 = .ok (.invokevirtual 61, 3) := by decide +kernel
theorem dL_law_170 : decode cL_law 170 = .ok (.ifCond .ne 5, 3) := by decide +kernel
theorem dL_law_173 : decode cL_law 173 = .ok (.iconst 0, 1) := by decide +kernel
theorem dL_law_174 : decode cL_law 174 = .ok (.ireturn, 1) := by decide +kernel
theorem dL_law_175 : decode cL_law 175 = .ok (.aload_n 1, 1) := by decide +kernel
theorem dL_law_176 : decode cL_law 176 = .ok (.iload 9, 2) := by decide +kernel
theorem dL_law_178 : decode cL_law 178 = .ok (.invokevirtual 61, 3) := by decide +kernel
theorem dL_law_181 : decode cL_law 181 = .ok (.ifCond .ne 6, 3) := by decide +kernel
theorem dL_law_184 : decode cL_law 184 = .ok (.goto 84, 3) := by decide +kernel
theorem dL_law_187 : decode cL_law 187 = .ok (.iload 11, 2) := by decide +kernel
theorem dL_law_189 : decode cL_law 189 = .ok (.iload 7, 2) := by decide +kernel
theorem dL_law_191 : decode cL_law 191 = .ok (.if_icmp .le 5, 3) := by decide +kernel