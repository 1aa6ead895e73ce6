theorem dL_isWell_364 : decode cL_isWell 364 = .ok (.iconst 5, 1) := by decide +kernel
theorem dL_isWell_365 : decode cL_isWell 365 = .ok (.invokevirtual 40, 3) := by decide +kernel
theorem dL_isWell_368 : decode cL_isWell 368 = .ok (.iconst 1, 1) := by decide +kernel
theorem dL_isWell_369 : decode cL_isWell 369 = .ok (.if_icmp .le 7, 3) := by decide +kernel
theorem dL_isWell_372 : decode cL_isWell 372 = .ok (.iconst 1, 1) := by decide +kernel
theorem dL_isWell_373 : decode cL_isWell 373 = .ok (.goto 4, 3) := by decide +kernel
theorem dL_isWell_376 : decode cL_isWell 376 = .ok (.iconst 0, 1) := by decide +kernel
theorem dL_isWell_377 : decode cL_isWell 377 = .ok (.istore 8, 2) := by decide +kernel
theorem dL_isWell_379 : decode cL_isWell 379 = .ok (.iconst 0, 1) := by decide +kernel
theorem dL_isWell_380 : decode cL_isWell 380 = .ok (.istore 12, 2) := by decide +kernel
theorem dL_isWell_382 : decode cL_isWell 382 = .ok (.iload 12, 2) := by decide +kernel
theorem dL_isWell_384 : decode cL_isWell 384 = .ok (.iload 9, 2) := by decide +kernel
theorem dL_isWell_386 : decode cL_isWell 386 = .ok (.if_icmp .ge 82, 3) := by decide +kernel
theorem dL_isWell_389 : decode cL_isWell 389 = .ok (.aload_n 0, 1) := by decide +kernel
theorem dL_isWell_390 : decode cL_isWell 390 = .ok (.iload 12, 2) := by decide +kernel
theorem dL_isWell_392 : decode cL_isWell 392 = .ok (.iload 9, 2) := by decide +kernel
theorem dL_isWell_394 : decode cL_isWell 394 = .ok (.iconst 0, 1) := by decide +kernel
theorem dL_isWell_395 : decode cL_isWell 395 = .ok (.invokevirtual 92, 3) := by decide +kernel
theorem dL_isWell_398 : decode cL_isWell 398 = .ok (.istore 13, 2) := by decide +kernel
theorem dL_isWell_400 : decode cL_isWell 400 = .ok (.iload 8, 2) := by decide +kernel
theorem dL_isWell_402 : decode cL_isWell 402 = .ok (.ifCond .eq 57, 3) := by decide +kernel
theorem dL_isWell_405 : decode cL_isWell 405 = .ok (.iload 13, 2) := by decide +kernel
theorem dL_isWell_407 : decode cL_isWell 407 = .ok (.aload_n 0, 1) := by decide +kernel
theorem dL_isWell_408 : decode cL_isWell 408 = .ok (.iload 9, 2) := by decide +kernel
theorem dL_isWell_410 : decode cL_isWell 410 = .ok (.iload 12, 2) := by decide +kernel
theorem dL_isWell_412 : decode cL_isWell 412 = .ok (.iconst 1, 1) := by decide +kernel
theorem dL_isWell_413 : decode cL_isWell 413 = .ok (.invokevirtual 92, 3) := by decide +kernel
theorem dL_isWell_416 : decode cL_isWell 416 = .ok (.if_icmp .ne 43, 3) := by decide +kernel
theorem dL_isWell_419 : decode cL_isWell 419 = .ok (.iload 13, 2) := by decide +kernel
theorem dL_isWell_421 : decode cL_isWell 421 = .ok (.iconst 1, 1) := by decide +kernel
theorem dL_isWell_422 : decode cL_isWell 422 = .ok (.if_icmp .ne 7, 3) := by decide +kernel
theorem dL_isWell_425 : decode cL_isWell 425 = .ok (.iconst 1, 1) := by decide +kernel
theorem dL_isWell_426 : decode cL_isWell 426 = .ok (.goto 4, 3) := by decide +kernel
theorem dL_isWell_429 : decode cL_isWell 429 = .ok (.iconst 0, 1) := by decide +kernel
theorem dL_isWell_430 : decode cL_isWell 430 = .ok (.aload_n 0, 1) := by decide +kernel
theorem dL_isWell_431 : decode cL_isWell 431 = .ok (.iload 12, 2) := by decide +kernel
theorem dL_isWell_433 : decode cL_isWell 433 = .ok (.iconst 4, 1) := by decide +kernel
theorem dL_isWell_434 : decode cL_isWell 434 = .ok (.invokevirtual 40, 3) := by decide +kernel
theorem dL_isWell_437 : decode cL_isWell 437 = .ok (.aload_n 0, 1) := by decide +kernel
theorem dL_isWell_438 : decode cL_isWell 438 = .ok (.iload 9, 2) := by decide +kernel
theorem dL_isWell_440 : decode cL_isWell 440 = .ok (.iconst 4, 1) := by decide +kernel
theorem dL_isWell_441 : decode cL_isWell 441 = .ok (.invokevirtual 40, 3) := by decide +kernel
theorem dL_isWell_444 : decode cL_isWell 444 = .ok (.if_icmp .ne 7, 3) := by decide +kernel
theorem dL_isWell_447 : decode cL_isWell 447 = .ok (.iconst 1, 1) := by decide +kernel
theorem dL_isWell_448 : decode cL_isWell 448 = .ok (.goto 4, 3) := by decide +kernel
theorem dL_isWell_451 : decode cL_isWell 451 = .ok (.iconst 0, 1) := by decide +kernel
theorem dL_isWell_452 : decode cL_isWell 452 = .ok (.if_icmp .ne 7, 3) := by decide +kernel
theorem dL_isWell_455 : decode cL_isWell 455 = .ok (.iconst 1, 1) := by decide +kernel
theorem dL_isWell_456 : decode cL_isWell 456 = .ok (.goto 4, 3) := by decide +kernel
theorem dL_isWell_459 : decode cL_isWell 459 = .ok (.iconst 0, 1) := by decide +kernel
theorem dL_isWell_460 : decode cL_isWell 460 = .ok (.istore 8, 2) := by decide +kernel
theorem dL_isWell_462 : decode cL_isWell 462 = .ok (.iinc 12 1, 3) := by decide +kernel
theorem dL_isWell_465 : decode cL_isWell 465 = .ok (.goto (-83), 3) := by decide +kernel
theorem dL_isWell_468 : decode cL_isWell 468 = .ok (.iinc 9 1, 3) := by decide +kernel
theorem dL_isWell_471 : decode cL_isWell 471 = .ok (.goto (-264), 3) := by decide +kernel
theorem dL_isWell_474 : decode cL_isWell 474 = .ok (.iload 8, 2) := by decide +kernel
theorem dL_isWell_476 : decode cL_isWell 476 = .ok (.ifCond .eq 95, 3) := by decide +kernel
theorem dL_isWell_479 : decode cL_isWell 479 = .ok (.iload_n 1, 1) := by decide +kernel
theorem dL_isWell_480 : decode cL_isWell 480 = .ok (.aload_n 0, 1) := by decide +kernel
theorem dL_isWell_481 : decode cL_isWell 481 = .ok (.bipush 8, 2) := by decide +kernel
theorem dL_isWell_483 : decode cL_isWell 483 = .ok (.invokevirtual 21, 3) := by decide +kernel
theorem dL_isWell_486 : decode cL_isWell 486 = .ok (.if_icmp .ne 85, 3) := by decide +kernel
theorem dL_isWell_489 : decode cL_isWell 489 = .ok (.iload_n 2, 1) := by decide +kernel
theorem dL_isWell_490 : decode cL_isWell 490 = .ok (.aload_n 0, 1) := by decide +kernel
theorem dL_isWell_491 : decode cL_isWell 491 = .ok (.bipush 9, 2) := by decide +kernel
theorem dL_isWell_493 : decode cL_isWell 493 = .ok (.invokevirtual 21, 3) := by decide +kernel
theorem dL_isWell_496 : decode cL_isWell 496 = .ok (.if_icmp .ne 75, 3) := by decide +kernel
theorem dL_isWell_499 : decode cL_isWell 499 = .ok (.iload_n 3, 1) := by decide +kernel
theorem dL_isWell_500 : decode cL_isWell 500 = .ok (.aload_n 0, 1) := by decide +kernel
theorem dL_isWell_501 : decode cL_isWell 501 = .ok (.bipush 7, 2) := by decide +kernel
theorem dL_isWell_503 : decode cL_isWell 503 = .ok (.invokevirtual 21, 3) := by decide +kernel
theorem dL_isWell_506 : decode cL_isWell 506 = .ok (.if_icmp .ne 65, 3) := by decide +kernel
theorem dL_isWell_509 : decode cL_isWell 509 = .ok (.iload 5, 2) := by decide +kernel
theorem dL_isWell_511 : decode cL_isWell 511 = .ok (.aload_n 0, 1) := by decide +kernel
theorem dL_isWell_512 : decode cL_isWell 512 = .ok (.bipush 10, 2) := by decide +kernel
theorem dL_isWell_514 : decode cL_isWell 514 = .ok (.invokevirtual 21, 3) := by decide +kernel
theorem dL_isWell_517 : decode cL_isWell 517 = .ok (.if_icmp .ne 54, 3) := by decide +kernel
theorem dL_isWell_520 : decode cL_isWell 520 = .ok (.iload 4, 2) := by decide +kernel
theorem dL_isWell_522 : decode cL_isWell 522 = .ok (.iload 5, 2) := by decide +kernel
theorem dL_isWell_524 : decode cL_isWell 524 = .ok (.if_icmp .ne 47, 3) := by decide +kernel
theorem dL_isWell_527 : decode cL_isWell 527 = .ok (.iload 6, 2) := by decide +kernel
theorem dL_isWell_529 : decode cL_isWell 529 = .ok (.aload_n 0, 1) := by decide +kernel
theorem dL_isWell_530 : decode cL_isWell 530 = .ok (.bipush 6, 2) := by decide +kernel
theorem dL_isWell_532 : decode cL_isWell 532 = .ok (.invokevirtual 21, 3) := by decide +kernel
theorem dL_isWell_535 : decode cL_isWell 535 = .ok (.if_icmp .ne 36, 3) := by decide +kernel
theorem dL_isWell_538 : decode cL_isWell 538 = .ok (.aload_n 0, 1) := by decide +kernel
theorem dL_isWell_539 : decode cL_isWell 539 = .ok (.bipush 8, 2) := by decide +kernel
theorem dL_isWell_541 : decode cL_isWell 541 = .ok (.invokevirtual 21, 3) := by decide +kernel
theorem dL_isWell_544 : decode cL_isWell 544 = .ok (.ifCond .ne 7, 3) := by decide +kernel
theorem dL_isWell_547 : decode cL_isWell 547 = .ok (.iconst 1, 1) := by decide +kernel
theorem dL_isWell_548 : decode cL_isWell 548 = .ok (.goto 4, 3) := by decide +kernel
theorem dL_isWell_551 : decode cL_isWell 551 = .ok (.iconst 0, 1) := by decide +kernel
theorem dL_isWell_552 : decode cL_isWell 552 = .ok (.aload_n 0, 1) := by decide +kernel
theorem dL_isWell_553 : decode cL_isWell 553 = .ok (.invokevirtual 80, 3) := by decide +kernel
theorem dL_isWell_556 : decode cL_isWell 556 = .ok (.ifCond .ne 7, 3) := by decide +kernel
theorem dL_isWell_559 : decode cL_isWell 559 = .ok (.iconst 1, 1) := by decide +kernel
theorem dL_isWell_560 : decode cL_isWell 560 = .ok (.goto 4, 3) := by decide +kernel
theorem dL_isWell_563 : decode cL_isWell 563 = .ok (.iconst 0, 1) := by decide +kernel
theorem dL_isWell_564 : decode cL_isWell 564 = .ok (.if_icmp .ne 7, 3) := by decide +kernel
theorem dL_isWell_567 : decode cL_isWell 567 = .ok (.iconst 1, 1) := by decide +kernel
theorem dL_isWell_568 : decode cL_isWell 568 = .ok (.goto 4, 3) := by decide +kernel
theorem dL_isWell_571 : decode cL_isWell 571 = .ok (.iconst 0, 1) := by decide +kernel
theorem dL_isWell_572 : decode cL_isWell 572 = .ok (.ireturn, 1) := by decide +kernel
set_option maxRecDepth 20000 in
theorem ggL_law_X1_init : GoodIn wsL_law wsX1_init := goodIn_r _ [5, 6, 7, 8, 9, 10, 11, 12, 13, 14, 15, 16, 17, 18, 19, 20, 21, 22, 23, 24, 25, 26, 27, 28, 29, 30, 31, 32, 33, 34, 35, 36, 37, 364, 365, 366, 367, 368, 369, 370, 371, 372, 373, 374, 375, 376, 377, 378, 379, 356, 357, 358, 359, 360, 361, 362, 363] (by decide +kernel) (by decide +kernel)
set_option maxRecDepth 20000 in
theorem gL_law_X1_init : GoodIn wsL_law (wsX1_init) := ggL_law_X1_init
set_option maxRecDepth 20000 in
theorem ggL_law_L_cell : GoodIn wsL_law wsL_cell := goodIn_r _ [41, 42] (by decide +kernel) (by decide +kernel)
set_option maxRecDepth 20000 in
theorem gL_law_L_cell : GoodIn wsL_law (va_wsS RL 97 yL_cell wsL_cell) := goodIn_app (goodIn_of _ (by decide +kernel)) ggL_law_L_cell
set_option maxRecDepth 20000 in
theorem ggL_law_L_isRead : GoodIn wsL_law wsL_isRead := goodIn_r _ [45, 46, 47, 48, 49, 2, 50, 51, 52, 53, 54, 55, 12, 56, 57, 58, 59, 60, 61, 62, 63, 64, 65, 11, 66, 67, 68, 69, 70, 71, 72, 73, 74, 75, 30, 76, 77, 78, 79, 32, 80, 81, 82, 83, 84, 85, 86, 87, 88, 89, 90, 91, 37, 92, 93, 94, 95, 96, 97, 98, 99, 28, 100, 101, 102, 103, 104, 105, 40, 106, 107, 108, 109, 110, 111, 112, 113, 114, 115, 116, 117, 118, 119, 120, 121, 122, 19, 123, 124, 125, 126, 127, 128, 129, 130, 131, 132, 133, 134, 135, 136, 137, 138, 139, 140, 141, 142, 143, 144, 145, 146, 147, 148, 149, 150, 14, 151, 152, 153, 154, 155, 156, 157, 158, 159, 160, 161, 162, 163, 164, 165, 166, 167, 168, 169, 170, 171, 172, 173, 174, 175, 176, 177, 178, 26, 179, 27, 29, 31, 180, 181, 182, 183, 184, 185, 186, 187, 188, 189, 190, 191, 192, 193, 194, 195, 196, 197, 198, 199, 200, 201, 356, 357, 358, 359, 360, 361, 362, 363, 364, 365, 366, 367, 368, 369, 370, 371, 372, 373, 374, 375, 376, 377, 378, 379] (by decide +kernel) (by decide +kernel)
set_option maxRecDepth 20000 in
theorem gL_law_L_isRead : GoodIn wsL_law (va_wsS RL 67 yL_isRead wsL_isRead) := goodIn_app (goodIn_of _ (by decide +kernel)) ggL_law_L_isRead
set_option maxRecDepth 20000 in
theorem ggL_law_L_isStep : GoodIn wsL_law wsL_isStep := goodIn_r _ [204, 52, 53, 54, 2, 55, 12, 56, 57, 58, 59, 60, 61, 51, 62, 63, 64, 65, 11, 66, 67, 68, 69, 70, 71, 72, 73, 74, 75, 30, 76, 77, 78, 79, 32, 80, 81, 82, 83, 84, 85, 86, 87, 88, 89, 90, 91, 37, 92, 93, 94, 95, 96, 97, 98, 99, 28, 100, 101, 102, 103, 104, 105, 40, 106, 107, 205, 206, 207, 208, 209, 210, 147, 148, 149, 150, 14, 151, 152, 153, 154, 155, 156, 157, 158, 159, 160, 161, 162, 163, 164, 165, 166, 167, 168, 169, 170, 171, 172, 173, 174, 188, 189, 190, 191, 192, 193, 194, 195, 196, 197, 198, 199, 200, 201, 29, 211, 212, 213, 214, 215, 216, 217, 218, 219, 220, 221, 222, 223, 224, 225, 226, 227, 228, 229, 230, 231, 232, 233, 234, 235, 236, 237, 238, 239, 240, 241, 242, 243, 244, 245, 246, 247, 248, 249, 250, 15, 17, 251, 252, 253, 254, 255, 256, 257, 43, 44, 45, 46, 47, 48, 49, 50, 108, 109, 110, 111, 112, 113, 114, 115, 116, 117, 118, 119, 120, 121, 122, 19, 123, 124, 125, 126, 127, 128, 129, 130, 131, 132, 133, 134, 135, 136, 137, 138, 139, 140, 141, 142, 143, 144, 145, 146, 175, 176, 177, 178, 26, 179, 27, 31, 180, 181, 182, 183, 184, 185, 186, 187, 258, 259, 260, 261, 262, 263, 264, 265, 266, 267, 268, 269, 270, 271, 272, 273, 274, 275, 276, 277, 278, 279, 280, 281, 282, 25, 283, 284, 285, 286, 287, 288, 289, 290, 35, 291, 292, 293, 294, 36, 33, 295, 296, 297, 298, 34, 299, 300, 301, 302, 303, 304, 305, 306, 307, 308, 309, 310, 311, 312, 313, 314, 315, 356, 357, 358, 359, 360, 361, 362, 363, 364, 365, 366, 367, 368, 369, 370, 371, 372, 373, 374, 375, 376, 377, 378, 379] rfl (by decide +kernel)
set_option maxRecDepth 20000 in
theorem gL_law_L_isStep : GoodIn wsL_law (va_wsS RL 101 yL_isStep wsL_isStep) := goodIn_app (goodIn_of _ (by decide +kernel)) ggL_law_L_isStep
set_option maxRecDepth 20000 in
theorem ggL_law_L_isWell : GoodIn wsL_law wsL_isWell := goodIn_r _ [318, 52, 53, 54, 2, 55, 12, 56, 57, 58, 59, 60, 61, 51, 62, 63, 64, 65, 11, 66, 67, 68, 69, 70, 71, 72, 73, 74, 75, 30, 76, 77, 78, 79, 32, 80, 81, 82, 83, 84, 85, 86, 87, 88, 89, 90, 91, 37, 92, 93, 94, 95, 96, 97, 98, 99, 28, 100, 101, 102, 103, 227, 228, 229, 230, 167, 168, 169, 171, 231, 232, 233, 188, 189, 190, 191, 165, 164, 163, 192, 193, 194, 195, 196, 197, 198, 199, 200, 201, 29, 303, 304, 305, 306, 307, 308, 309, 310, 275, 276, 277, 278, 279, 280, 281, 282, 25, 283, 284, 157, 285, 286, 156, 158, 287, 288, 289, 290, 266, 35, 319, 320, 321, 322, 323, 272, 273, 274, 324, 325, 326, 327, 328, 329, 330, 331, 27, 332, 333, 334, 335, 336, 337, 338, 339, 184, 185, 186, 187, 26, 340, 341, 342, 343, 13, 151, 152, 153, 154, 155, 159, 160, 161, 162, 166, 170, 172, 173, 174, 262, 263, 264, 265, 267, 268, 269, 270, 271, 291, 292, 293, 294, 36, 31, 33, 295, 296, 297, 298, 34, 299, 300, 301, 302, 356, 357, 358, 359, 360, 361, 362, 363, 364, 365, 366, 367, 368, 369, 370, 371, 372, 373, 374, 375, 376, 377, 378, 379] rfl (by decide +kernel)
set_option maxRecDepth 20000 in
theorem gL_law_L_isWell : GoodIn wsL_law (va_wsS RL 104 yL_isWell wsL_isWell) := goodIn_app (goodIn_of _ (by decide +kernel)) ggL_law_L_isWell
set_option maxRecDepth 20000 in
theorem ggL_law_L_areAlike : GoodIn wsL_law wsL_areAlike := goodIn_r _ [346, 104, 105, 40, 106, 107, 340, 341, 342, 2, 343, 12, 59, 13, 84, 85, 86, 151, 152, 153, 56, 57, 58, 154, 155, 156, 157, 158, 159, 160, 161, 162, 163, 164, 165, 166, 61, 167, 60, 168, 169, 170, 171, 172, 173, 174, 262, 263, 264, 11, 265, 266, 267, 268, 269, 270, 67, 29, 68, 69, 70, 71, 72, 73, 74, 75, 30, 76, 77, 78, 79, 32, 271, 272, 273, 274, 275, 276, 277, 278, 96, 97, 98, 99, 28, 100, 101, 102, 103, 279, 280, 281, 282, 25, 283, 284, 285, 286, 287, 288, 289, 290, 35, 291, 292, 293, 294, 36, 31, 33, 295, 296, 297, 298, 34, 299, 300, 301, 302, 52, 53, 54, 55, 51, 62, 63, 64, 65, 66, 80, 81, 82, 83, 87, 88, 89, 90, 91, 37, 92, 93, 94, 95, 347, 348, 349, 350, 188, 189, 190, 191, 192, 193, 194, 195, 196, 197, 198, 199, 200, 201, 319, 320, 321, 322, 323, 303, 304, 305, 306, 231, 232, 233, 307, 308, 309, 310, 227, 228, 229, 230, 351, 352, 353, 354, 355, 356, 357, 358, 359, 360, 361, 362, 363, 364, 365, 366, 367, 368, 369, 370, 371, 372, 373, 374, 375, 376, 377, 378, 379] rfl (by decide +kernel)
set_option maxRecDepth 20000 in
theorem gL_law_L_areAlike : GoodIn wsL_law (va_wsS RL 108 yL_areAlike wsL_areAlike) := goodIn_app (goodIn_of _ (by decide +kernel)) ggL_law_L_areAlike
theorem dL_law_0 : decode cL_law 0 = .ok (.new 16, 3) := by decide +kernel
theorem dL_law_3 : decode cL_law 3 = .ok (.dup, 1) := by decide +kernel
theorem dL_law_4 : decode cL_law 4 = .ok (.invokespecial 96, 3) := by decide +kernel
theorem dL_law_7 : decode cL_law 7 = .ok (.astore_n 1, 1) := by decide +kernel
theorem dL_law_8 : decode cL_law 8 = .ok (.new 16, 3) := by decide +kernel
theorem dL_law_11 : decode cL_law 11 = .ok (.dup, 1) := by decide +kernel
theorem dL_law_12 : decode cL_law 12 = .ok (.invokespecial 96, 3) := by decide +kernel
theorem dL_law_15 : decode cL_law 15 = .ok (.astore_n 2, 1) := by decide +kernel
theorem dL_law_16 : decode cL_law 16 = .ok (.aload_n 1, 1) := by decide +kernel
theorem dL_law_17 : decode cL_law 17 = .ok (.aload_n 2, 1) := by decide +kernel
theorem dL_law_18 : decode cL_law 18 = .ok (.aload_n 0, 1) := by decide +kernel
theorem dL_law_19 : decode cL_law 19 = .ok (.iconst 0, 1) := by decide +kernel
theorem dL_law_20 : decode cL_law 20 = .ok (.invokestatic 97, 3) := by decide +kernel
theorem dL_law_23 : decode cL_law 23 = .ok (.aload_n 0, 1) := by decide +kernel
theorem dL_law_24 : decode cL_law 24 = .ok (.iconst 1, 1) := by decide +kernel
theorem dL_law_25 : decode cL_law 25 = .ok (.invokestatic 97, 3) := by decide +kernel
theorem dL_law_28 : decode cL_law 28 = .ok (.invokestatic 67, 3) := by decide +kernel
theorem dL_law_31 : decode cL_law 31 = .ok (.istore_n 3, 1) := by decide +kernel
theorem dL_law_32 : decode cL_law 32 = .ok (.iconst 2, 1) := by decide +kernel
theorem dL_law_33 : decode cL_law 33 = .ok (.istore 4, 2) := by decide +kernel
theorem dL_law_35 : decode cL_law 35 = .ok (.iload 4, 2) := by decide +kernel
theorem dL_law_37 : decode cL_law 37 = .ok (.bipush 54, 2) := by decide +kernel
theorem dL_law_39 : decode cL_law 39 = .ok (.if_icmp .ge 57, 3) := by decide +kernel
theorem dL_law_42 : decode cL_law 42 = .ok (.iload_n 3, 1) := by decide +kernel
theorem dL_law_43 : decode cL_law 43 = .ok (.ifCond .eq 53, 3) := by decide +kernel
theorem dL_law_46 : decode cL_law 46 = .ok (.aload_n 1, 1) := by decide +kernel
theorem dL_law_47 : decode cL_law 47 = .ok (.aload_n 2, 1) := by decide +kernel
theorem dL_law_48 : decode cL_law 48 = .ok (.aload_n 0, 1) := by decide +kernel
theorem dL_law_49 : decode cL_law 49 = .ok (.iload 4, 2) := by decide +kernel
theorem dL_law_51 : decode cL_law 51 = .ok (.invokestatic 97, 3) := by decide +kernel
theorem dL_law_54 : decode cL_law 54 = .ok (.aload_n 0, 1) := by decide +kernel
theorem dL_law_55 : decode cL_law 55 = .ok (.iload 4, 2) := by decide +kernel
theorem dL_law_57 : decode cL_law 57 = .ok (.iconst 1, 1) := by decide +kernel
theorem dL_law_58 : decode cL_law 58 = .ok (.iadd, 1) := by decide +kernel
theorem dL_law_59 : decode cL_law 59 = .ok (.invokestatic 97, 3) := by decide +kernel
theorem dL_law_62 : decode cL_law 62 = .ok (.iconst 2, 1) := by decide +kernel
theorem dL_law_63 : decode cL_law 63 = .ok (.ishr, 1) := by decide +kernel
theorem dL_law_64 : decode cL_law 64 = .ok (.invokestatic 101, 3) := by decide +kernel
theorem dL_law_67 : decode cL_law 67 = .ok (.ifCond .eq 21, 3) := by decide +kernel
theorem dL_law_70 : decode cL_law 70 = .ok (.iload 4, 2) := by decide +kernel
theorem dL_law_72 : decode cL_law 72 = .ok (.iconst 3, 1) := by decide +kernel
theorem dL_law_73 : decode cL_law 73 = .ok (.irem, 1) := by decide +kernel
theorem dL_law_74 : decode cL_law 74 = .ok (.ifCond .gt 10, 3) := by decide +kernel
theorem dL_law_77 : decode cL_law 77 = .ok (.aload_n 1, 1) := by decide +kernel
theorem dL_law_78 : decode cL_law 78 = .ok (.invokestatic 104, 3) := by decide +kernel
theorem dL_law_81 : decode cL_law 81 = .ok (.ifCond .eq 7, 3) := by decide +kernel
theorem dL_law_84 : decode cL_law 84 = .ok (.iconst 1, 1) := by decide +kernel
theorem dL_law_85 : decode cL_law 85 = .ok (.goto 4, 3) := by decide +kernel
theorem dL_law_88 : decode cL_law 88 = .ok (.iconst 0, 1) := by decide +kernel
theorem dL_law_89 : decode cL_law 89 = .ok (.istore_n 3, 1) := by decide +kernel
theorem dL_law_90 : decode cL_law 90 = .ok (.iinc 4 1, 3) := by decide +kernel
theorem dL_law_93 : decode cL_law 93 = .ok (.goto (-58), 3) := by decide +kernel
theorem dL_law_96 : decode cL_law 96 = .ok (.iload_n 3, 1) := by decide +kernel
theorem dL_law_97 : decode cL_law 97 = .ok (.ifCond .eq 28, 3) := by decide +kernel
theorem dL_law_100 : decode cL_law 100 = .ok (.aload_n 1, 1) := by decide +kernel
theorem dL_law_101 : decode cL_law 101 = .ok (.invokestatic 104, 3) := by decide +kernel
theorem dL_law_104 : decode cL_law 104 = .ok (.ifCond .eq 21, 3) := by decide +kernel
theorem dL_law_107 : decode cL_law 107 = .ok (.aload_n 1, 1) := by decide +kernel
theorem dL_law_108 : decode cL_law 108 = .ok (.aload_n 2, 1) := by decide +kernel
theorem dL_law_109 : decode cL_law 109 = .ok (.aload_n 0, 1) := by decide +kernel
theorem dL_law_110 : decode cL_law 110 = .ok (.bipush 54, 2) := by decide +kernel
theorem dL_law_112 : decode cL_law 112 = .ok (.invokestatic 97, 3) := by decide +kernel
theorem dL_law_115 : decode cL_law 115 = .ok (.invokestatic 108, 3) := by decide +kernel
theorem dL_law_118 : decode cL_law 118 = .ok (.ifCond .eq 7, 3) := by decide +kernel
theorem dL_law_121 : decode cL_law 121 = .ok (.iconst 1, 1) := by decide +kernel
theorem dL_law_122 : decode cL_law 122 = .ok (.goto 4, 3) := by decide +kernel
theorem dL_law_125 : decode cL_law 125 = .ok (.iconst 0, 1) := by decide +kernel
theorem dL_law_126 : decode cL_law 126 = .ok (.ireturn, 1) := by decide +kernel
abbrev vwCl : List vw_C := [(RX0, TX0, 16), (RX1, TX1, 8)]
