theorem dX13_bringsTo_397 : decode cX13_bringsTo 397 = .ok (.iload 7, 2) := by decide +kernel
theorem dX13_bringsTo_399 : decode cX13_bringsTo 399 = .ok (.iload 4, 2) := by decide +kernel
theorem dX13_bringsTo_401 : decode cX13_bringsTo 401 = .ok (.if_icmp .ge 11, 3) := by decide +kernel
theorem dX13_bringsTo_404 : decode cX13_bringsTo 404 = .ok (.iload 4, 2) := by decide +kernel
theorem dX13_bringsTo_406 : decode cX13_bringsTo 406 = .ok (.iload 7, 2) := by decide +kernel
theorem dX13_bringsTo_408 : decode cX13_bringsTo 408 = .ok (.isub, 1) := by decide +kernel
theorem dX13_bringsTo_409 : decode cX13_bringsTo 409 = .ok (.goto 8, 3) := by decide +kernel
theorem dX13_bringsTo_412 : decode cX13_bringsTo 412 = .ok (.iload 7, 2) := by decide +kernel
theorem dX13_bringsTo_414 : decode cX13_bringsTo 414 = .ok (.iload 4, 2) := by decide +kernel
theorem dX13_bringsTo_416 : decode cX13_bringsTo 416 = .ok (.isub, 1) := by decide +kernel
theorem dX13_bringsTo_417 : decode cX13_bringsTo 417 = .ok (.if_icmp .lt 6, 3) := by decide +kernel
theorem dX13_bringsTo_420 : decode cX13_bringsTo 420 = .ok (.goto 7, 3) := by decide +kernel
theorem dX13_bringsTo_423 : decode cX13_bringsTo 423 = .ok (.iload 8, 2) := by decide +kernel
theorem dX13_bringsTo_425 : decode cX13_bringsTo 425 = .ok (.istore 7, 2) := by decide +kernel
theorem dX13_bringsTo_427 : decode cX13_bringsTo 427 = .ok (.iload 8, 2) := by decide +kernel
theorem dX13_bringsTo_429 : decode cX13_bringsTo 429 = .ok (.iload_n 2, 1) := by decide +kernel
theorem dX13_bringsTo_430 : decode cX13_bringsTo 430 = .ok (.iadd, 1) := by decide +kernel
theorem dX13_bringsTo_431 : decode cX13_bringsTo 431 = .ok (.istore 8, 2) := by decide +kernel
theorem dX13_bringsTo_433 : decode cX13_bringsTo 433 = .ok (.goto (-83), 3) := by decide +kernel
theorem dX13_bringsTo_436 : decode cX13_bringsTo 436 = .ok (.iload 7, 2) := by decide +kernel
theorem dX13_bringsTo_438 : decode cX13_bringsTo 438 = .ok (.iconst (-1), 1) := by decide +kernel
theorem dX13_bringsTo_439 : decode cX13_bringsTo 439 = .ok (.if_icmp .ne 5, 3) := by decide +kernel
theorem dX13_bringsTo_442 : decode cX13_bringsTo 442 = .ok (.iconst (-1), 1) := by decide +kernel
theorem dX13_bringsTo_443 : decode cX13_bringsTo 443 = .ok (.ireturn, 1) := by decide +kernel
theorem dX13_bringsTo_444 : decode cX13_bringsTo 444 = .ok (.iload 7, 2) := by decide +kernel
theorem dX13_bringsTo_446 : decode cX13_bringsTo 446 = .ok (.iload 4, 2) := by decide +kernel
theorem dX13_bringsTo_448 : decode cX13_bringsTo 448 = .ok (.isub, 1) := by decide +kernel
theorem dX13_bringsTo_449 : decode cX13_bringsTo 449 = .ok (.istore 8, 2) := by decide +kernel
theorem dX13_bringsTo_451 : decode cX13_bringsTo 451 = .ok (.iconst 0, 1) := by decide +kernel
theorem dX13_bringsTo_452 : decode cX13_bringsTo 452 = .ok (.istore 9, 2) := by decide +kernel
theorem dX13_bringsTo_454 : decode cX13_bringsTo 454 = .ok (.iload 9, 2) := by decide +kernel
theorem dX13_bringsTo_456 : decode cX13_bringsTo 456 = .ok (.iload_n 3, 1) := by decide +kernel
theorem dX13_bringsTo_457 : decode cX13_bringsTo 457 = .ok (.if_icmp .ge 197, 3) := by decide +kernel
theorem dX13_bringsTo_460 : decode cX13_bringsTo 460 = .ok (.aload_n 0, 1) := by decide +kernel
theorem dX13_bringsTo_461 : decode cX13_bringsTo 461 = .ok (.getfield 210, 3) := by decide +kernel
theorem dX13_bringsTo_464 : decode cX13_bringsTo 464 = .ok (.iload 9, 2) := by decide +kernel
theorem dX13_bringsTo_466 : decode cX13_bringsTo 466 = .ok (.iaload, 1) := by decide +kernel
theorem dX13_bringsTo_467 : decode cX13_bringsTo 467 = .ok (.istore 10, 2) := by decide +kernel
theorem dX13_bringsTo_469 : decode cX13_bringsTo 469 = .ok (.aload_n 0, 1) := by decide +kernel
theorem dX13_bringsTo_470 : decode cX13_bringsTo 470 = .ok (.getfield 108, 3) := by decide +kernel
theorem dX13_bringsTo_473 : decode cX13_bringsTo 473 = .ok (.iload 10, 2) := by decide +kernel
theorem dX13_bringsTo_475 : decode cX13_bringsTo 475 = .ok (.baload, 1) := by decide +kernel
theorem dX13_bringsTo_476 : decode cX13_bringsTo 476 = .ok (.ifCond .ne 172, 3) := by decide +kernel
theorem dX13_bringsTo_479 : decode cX13_bringsTo 479 = .ok (.aload_n 0, 1) := by decide +kernel
theorem dX13_bringsTo_480 : decode cX13_bringsTo 480 = .ok (.getfield 90, 3) := by decide +kernel
theorem dX13_bringsTo_483 : decode cX13_bringsTo 483 = .ok (.iload 10, 2) := by decide +kernel
theorem dX13_bringsTo_485 : decode cX13_bringsTo 485 = .ok (.iaload, 1) := by decide +kernel
theorem dX13_bringsTo_486 : decode cX13_bringsTo 486 = .ok (.ifCond .eq 6, 3) := by decide +kernel
theorem dX13_bringsTo_489 : decode cX13_bringsTo 489 = .ok (.goto 159, 3) := by decide +kernel
theorem dX13_bringsTo_492 : decode cX13_bringsTo 492 = .ok (.iload 8, 2) := by decide +kernel
theorem dX13_bringsTo_494 : decode cX13_bringsTo 494 = .ok (.ifCond .le 21, 3) := by decide +kernel
theorem dX13_bringsTo_497 : decode cX13_bringsTo 497 = .ok (.aload_n 0, 1) := by decide +kernel
theorem dX13_bringsTo_498 : decode cX13_bringsTo 498 = .ok (.getfield 216, 3) := by decide +kernel
theorem dX13_bringsTo_501 : decode cX13_bringsTo 501 = .ok (.iload 10, 2) := by decide +kernel
theorem dX13_bringsTo_503 : decode cX13_bringsTo 503 = .ok (.iaload, 1) := by decide +kernel
theorem dX13_bringsTo_504 : decode cX13_bringsTo 504 = .ok (.aload_n 0, 1) := by decide +kernel
theorem dX13_bringsTo_505 : decode cX13_bringsTo 505 = .ok (.getfield 219, 3) := by decide +kernel
theorem dX13_bringsTo_508 : decode cX13_bringsTo 508 = .ok (.iload 10, 2) := by decide +kernel
theorem dX13_bringsTo_510 : decode cX13_bringsTo 510 = .ok (.iaload, 1) := by decide +kernel
theorem dX13_bringsTo_511 : decode cX13_bringsTo 511 = .ok (.isub, 1) := by decide +kernel
theorem dX13_bringsTo_512 : decode cX13_bringsTo 512 = .ok (.goto 18, 3) := by decide +kernel
theorem dX13_bringsTo_515 : decode cX13_bringsTo 515 = .ok (.aload_n 0, 1) := by decide +kernel
theorem dX13_bringsTo_516 : decode cX13_bringsTo 516 = .ok (.getfield 213, 3) := by decide +kernel
theorem dX13_bringsTo_519 : decode cX13_bringsTo 519 = .ok (.iload 10, 2) := by decide +kernel
theorem dX13_bringsTo_521 : decode cX13_bringsTo 521 = .ok (.iaload, 1) := by decide +kernel
theorem dX13_bringsTo_522 : decode cX13_bringsTo 522 = .ok (.aload_n 0, 1) := by decide +kernel
theorem dX13_bringsTo_523 : decode cX13_bringsTo 523 = .ok (.getfield 219, 3) := by decide +kernel
theorem dX13_bringsTo_526 : decode cX13_bringsTo 526 = .ok (.iload 10, 2) := by decide +kernel
theorem dX13_bringsTo_528 : decode cX13_bringsTo 528 = .ok (.iaload, 1) := by decide +kernel
theorem dX13_bringsTo_529 : decode cX13_bringsTo 529 = .ok (.isub, 1) := by decide +kernel
theorem dX13_bringsTo_530 : decode cX13_bringsTo 530 = .ok (.istore 11, 2) := by decide +kernel
theorem dX13_bringsTo_532 : decode cX13_bringsTo 532 = .ok (.iload 8, 2) := by decide +kernel
theorem dX13_bringsTo_534 : decode cX13_bringsTo 534 = .ok (.ifCond .le 20, 3) := by decide +kernel
theorem dX13_bringsTo_537 : decode cX13_bringsTo 537 = .ok (.iload 8, 2) := by decide +kernel
theorem dX13_bringsTo_539 : decode cX13_bringsTo 539 = .ok (.iload 11, 2) := by decide +kernel
theorem dX13_bringsTo_541 : decode cX13_bringsTo 541 = .ok (.if_icmp .ge 8, 3) := by decide +kernel
theorem dX13_bringsTo_544 : decode cX13_bringsTo 544 = .ok (.iload 8, 2) := by decide +kernel
theorem dX13_bringsTo_546 : decode cX13_bringsTo 546 = .ok (.goto 22, 3) := by decide +kernel
theorem dX13_bringsTo_549 : decode cX13_bringsTo 549 = .ok (.iload 11, 2) := by decide +kernel
theorem dX13_bringsTo_551 : decode cX13_bringsTo 551 = .ok (.goto 17, 3) := by decide +kernel
theorem dX13_bringsTo_554 : decode cX13_bringsTo 554 = .ok (.iload 8, 2) := by decide +kernel
theorem dX13_bringsTo_556 : decode cX13_bringsTo 556 = .ok (.iload 11, 2) := by decide +kernel
theorem dX13_bringsTo_558 : decode cX13_bringsTo 558 = .ok (.if_icmp .le 8, 3) := by decide +kernel
theorem dX13_bringsTo_561 : decode cX13_bringsTo 561 = .ok (.iload 8, 2) := by decide +kernel
theorem dX13_bringsTo_563 : decode cX13_bringsTo 563 = .ok (.goto 5, 3) := by decide +kernel
theorem dX13_bringsTo_566 : decode cX13_bringsTo 566 = .ok (.iload 11, 2) := by decide +kernel
theorem dX13_bringsTo_568 : decode cX13_bringsTo 568 = .ok (.istore 12, 2) := by decide +kernel
theorem dX13_bringsTo_570 : decode cX13_bringsTo 570 = .ok (.aload_n 0, 1) := by decide +kernel
theorem dX13_bringsTo_571 : decode cX13_bringsTo 571 = .ok (.getfield 219, 3) := by decide +kernel
theorem dX13_bringsTo_574 : decode cX13_bringsTo 574 = .ok (.iload 10, 2) := by decide +kernel
theorem dX13_bringsTo_576 : decode cX13_bringsTo 576 = .ok (.dup2, 1) := by decide +kernel
theorem dX13_bringsTo_577 : decode cX13_bringsTo 577 = .ok (.iaload, 1) := by decide +kernel
theorem dX13_bringsTo_578 : decode cX13_bringsTo 578 = .ok (.iload 12, 2) := by decide +kernel
theorem dX13_bringsTo_580 : decode cX13_bringsTo 580 = .ok (.iadd, 1) := by decide +kernel
theorem dX13_bringsTo_581 : decode cX13_bringsTo 581 = .ok (.iastore, 1) := by decide +kernel
theorem dX13_bringsTo_582 : decode cX13_bringsTo 582 = .ok (.iload 8, 2) := by decide +kernel
theorem dX13_bringsTo_584 : decode cX13_bringsTo 584 = .ok (.iload 12, 2) := by decide +kernel
theorem dX13_bringsTo_586 : decode cX13_bringsTo 586 = .ok (.isub, 1) := by decide +kernel
theorem dX13_bringsTo_587 : decode cX13_bringsTo 587 = .ok (.istore 8, 2) := by decide +kernel
theorem dX13_bringsTo_589 : decode cX13_bringsTo 589 = .ok (.aload_n 0, 1) := by decide +kernel
theorem dX13_bringsTo_590 : decode cX13_bringsTo 590 = .ok (.dup, 1) := by decide +kernel
theorem dX13_bringsTo_591 : decode cX13_bringsTo 591 = .ok (.getfield 515, 3) := by decide +kernel
theorem dX13_bringsTo_594 : decode cX13_bringsTo 594 = .ok (.aload_n 0, 1) := by decide +kernel
theorem dX13_bringsTo_595 : decode cX13_bringsTo 595 = .ok (.getfield 219, 3) := by decide +kernel
theorem dX13_bringsTo_598 : decode cX13_bringsTo 598 = .ok (.iload 10, 2) := by decide +kernel
theorem dX13_bringsTo_600 : decode cX13_bringsTo 600 = .ok (.iaload, 1) := by decide +kernel
theorem dX13_bringsTo_601 : decode cX13_bringsTo 601 = .ok (.aload_n 0, 1) := by decide +kernel
theorem dX13_bringsTo_602 : decode cX13_bringsTo 602 = .ok (.getfield 99, 3) := by decide +kernel
theorem dX13_bringsTo_605 : decode cX13_bringsTo 605 = .ok (.iload 10, 2) := by decide +kernel
theorem dX13_bringsTo_607 : decode cX13_bringsTo 607 = .ok (.iaload, 1) := by decide +kernel
theorem dX13_bringsTo_608 : decode cX13_bringsTo 608 = .ok (.if_icmp .ge 21, 3) := by decide +kernel
theorem dX13_bringsTo_611 : decode cX13_bringsTo 611 = .ok (.aload_n 0, 1) := by decide +kernel
theorem dX13_bringsTo_612 : decode cX13_bringsTo 612 = .ok (.getfield 99, 3) := by decide +kernel
theorem dX13_bringsTo_615 : decode cX13_bringsTo 615 = .ok (.iload 10, 2) := by decide +kernel
theorem dX13_bringsTo_617 : decode cX13_bringsTo 617 = .ok (.iaload, 1) := by decide +kernel
theorem dX13_bringsTo_618 : decode cX13_bringsTo 618 = .ok (.aload_n 0, 1) := by decide +kernel
theorem dX13_bringsTo_619 : decode cX13_bringsTo 619 = .ok (.getfield 219, 3) := by decide +kernel
theorem dX13_bringsTo_622 : decode cX13_bringsTo 622 = .ok (.iload 10, 2) := by decide +kernel
theorem dX13_bringsTo_624 : decode cX13_bringsTo 624 = .ok (.iaload, 1) := by decide +kernel
theorem dX13_bringsTo_625 : decode cX13_bringsTo 625 = .ok (.isub, 1) := by decide +kernel
theorem dX13_bringsTo_626 : decode cX13_bringsTo 626 = .ok (.goto 18, 3) := by decide +kernel
theorem dX13_bringsTo_629 : decode cX13_bringsTo 629 = .ok (.aload_n 0, 1) := by decide +kernel
theorem dX13_bringsTo_630 : decode cX13_bringsTo 630 = .ok (.getfield 219, 3) := by decide +kernel
theorem dX13_bringsTo_633 : decode cX13_bringsTo 633 = .ok (.iload 10, 2) := by decide +kernel
theorem dX13_bringsTo_635 : decode cX13_bringsTo 635 = .ok (.iaload, 1) := by decide +kernel
theorem dX13_bringsTo_636 : decode cX13_bringsTo 636 = .ok (.aload_n 0, 1) := by decide +kernel
theorem dX13_bringsTo_637 : decode cX13_bringsTo 637 = .ok (.getfield 99, 3) := by decide +kernel
theorem dX13_bringsTo_640 : decode cX13_bringsTo 640 = .ok (.iload 10, 2) := by decide +kernel
theorem dX13_bringsTo_642 : decode cX13_bringsTo 642 = .ok (.iaload, 1) := by decide +kernel
theorem dX13_bringsTo_643 : decode cX13_bringsTo 643 = .ok (.isub, 1) := by decide +kernel
theorem dX13_bringsTo_644 : decode cX13_bringsTo 644 = .ok (.iadd, 1) := by decide +kernel
theorem dX13_bringsTo_645 : decode cX13_bringsTo 645 = .ok (.putfield 515, 3) := by decide +kernel
theorem dX13_bringsTo_648 : decode cX13_bringsTo 648 = .ok (.iinc 9 1, 3) := by decide +kernel
theorem dX13_bringsTo_651 : decode cX13_bringsTo 651 = .ok (.goto (-197), 3) := by decide +kernel
theorem dX13_bringsTo_654 : decode cX13_bringsTo 654 = .ok (.iload_n 3, 1) := by decide +kernel
theorem dX13_bringsTo_655 : decode cX13_bringsTo 655 = .ok (.ireturn, 1) := by decide +kernel
set_option maxRecDepth 20000 in
theorem ggX13_lengths_X13_bringsTo : GoodIn wsX13_lengths wsX13_bringsTo := goodIn_r _ [6, 7, 1, 8, 9, 10, 11, 12, 13, 14, 15, 16, 17, 18, 19, 5, 20, 21, 22, 23, 24, 25, 26, 27, 28, 29, 30, 31, 32, 33, 34, 35, 36, 37, 38, 39, 40, 41, 42, 43, 44, 45, 46, 47, 48, 49, 50, 51, 52, 53, 54, 55, 56, 57, 58, 59, 60, 61, 62, 63, 64, 65, 66, 67, 68, 69, 70, 71, 72, 73, 74, 75, 76, 77, 78, 79, 80, 81, 82, 83, 84, 85, 86, 87, 88, 89, 90, 91, 92, 93, 94, 95, 96, 97, 98, 99, 100, 101, 102, 103, 104, 105, 106, 107, 108, 109, 110, 111, 112, 113, 114, 115, 116, 117, 118, 119, 120, 121, 122, 123, 124, 125, 126, 127, 128, 129, 130, 131, 132, 133, 134, 135, 136, 137, 138, 139, 140, 141, 142, 143, 144, 145, 146, 147, 148, 149, 150, 151, 152, 153, 154, 155, 156, 157, 158, 159, 160, 161, 162, 163, 164, 165, 166, 167, 168, 169, 170, 171, 172, 173, 174, 175, 176, 177, 178, 179, 180, 181, 182, 183, 184, 185, 186, 187, 188, 189, 190, 191, 192, 193, 194, 195, 196, 197, 198, 199, 200, 201, 202, 203, 204, 205, 206, 207, 208, 209, 210, 211, 212, 213, 214, 215, 216, 217, 218, 219, 220, 221, 222, 223, 224, 225, 226, 227, 228, 229, 230, 231, 232, 233, 234, 235, 236] (by decide +kernel) (by decide +kernel)
set_option maxRecDepth 20000 in
theorem gX13_lengths_X13_bringsTo : GoodIn wsX13_lengths (wsV RX13 521 RX13 yX13_bringsTo wsX13_bringsTo) := goodIn_app (goodIn_of _ (by decide +kernel)) ggX13_lengths_X13_bringsTo
theorem dX13_lengths_0 : decode cX13_lengths 0 = .ok (.aload_n 0, 1) := by decide +kernel
theorem dX13_lengths_1 : decode cX13_lengths 1 = .ok (.iload_n 1, 1) := by decide +kernel
theorem dX13_lengths_2 : decode cX13_lengths 2 = .ok (.iload_n 2, 1) := by decide +kernel
theorem dX13_lengths_3 : decode cX13_lengths 3 = .ok (.invokevirtual 521, 3) := by decide +kernel
theorem dX13_lengths_6 : decode cX13_lengths 6 = .ok (.iconst (-1), 1) := by decide +kernel
theorem dX13_lengths_7 : decode cX13_lengths 7 = .ok (.if_icmp .ne 7, 3) := by decide +kernel
theorem dX13_lengths_10 : decode cX13_lengths 10 = .ok (.iconst (-1), 1) := by decide +kernel
theorem dX13_lengths_11 : decode cX13_lengths 11 = .ok (.goto 7, 3) := by decide +kernel
theorem dX13_lengths_14 : decode cX13_lengths 14 = .ok (.aload_n 0, 1) := by decide +kernel
theorem dX13_lengths_15 : decode cX13_lengths 15 = .ok (.getfield 515, 3) := by decide +kernel
theorem dX13_lengths_18 : decode cX13_lengths 18 = .ok (.ireturn, 1) := by decide +kernel
set_option maxRecDepth 20000 in
theorem ggX13_length_X13_isArticle : GoodIn wsX13_length wsX13_isArticle := goodIn_r _ [8, 9, 10, 11, 12, 7, 13, 14, 15, 16, 17, 141, 142, 143, 144, 145, 146, 147, 148, 149, 150, 151, 152, 153, 154, 155, 156, 157, 158, 159, 160, 161, 162, 163, 164, 165, 166, 167, 168, 169, 170, 171, 172, 173, 174, 175, 176, 177, 178, 179, 180, 181, 182, 183, 184, 185, 186, 187, 188, 189, 190, 191, 192, 193, 194, 195, 196, 197, 198, 199, 200, 201, 202, 203, 204, 205, 206, 207, 208, 209, 210, 211, 212, 213, 214, 215, 216, 217, 218, 219, 220, 221, 222, 223, 224, 225, 226, 227, 228, 229, 230, 231, 232, 233, 234, 235, 236, 237, 238, 239, 240, 241, 242, 243, 244] (by decide +kernel) (by decide +kernel)
set_option maxRecDepth 20000 in
theorem gX13_length_X13_isArticle : GoodIn wsX13_length (wsV RX13 467 RX13 yX13_isArticle wsX13_isArticle) := goodIn_app (goodIn_of _ (by decide +kernel)) ggX13_length_X13_isArticle
set_option maxRecDepth 20000 in
theorem ggX13_length_X13_volumeOf : GoodIn wsX13_length wsX13_volumeOf := goodIn_r _ [21, 2, 22, 23, 24, 25, 26, 7, 27, 28, 29, 30, 31, 32, 33, 34, 35, 36, 37, 38, 39, 40, 41, 42, 43, 44, 45, 46, 47, 48, 49, 50, 51, 52, 53, 54, 55, 56, 57, 58, 59, 60, 61, 62, 63, 64, 65, 66, 67, 68, 69, 70, 71, 72, 73, 74, 75, 76, 77, 78, 79, 80, 81, 141, 142, 143, 144, 145, 146, 147, 148, 149, 150, 151, 152, 153, 154, 155, 156, 157, 158, 159, 160, 161, 162, 163, 164, 165, 166, 167, 168, 169, 170, 171, 172, 173, 174, 175, 176, 177, 178, 179, 180, 181, 182, 183, 184, 185, 186, 187, 188, 189, 190, 191, 192, 193, 194, 195, 196, 197, 198, 199, 200, 201, 202, 203, 204, 205, 206, 207, 208, 209, 210, 211, 212, 213, 214, 215, 216, 217, 218, 219, 220, 221, 222, 223, 224, 225, 226, 227, 228, 229, 230, 231, 232, 233, 234, 235, 236, 237, 238, 239, 240, 241, 242, 243, 244] (by decide +kernel) (by decide +kernel)
set_option maxRecDepth 20000 in
theorem gX13_length_X13_volumeOf : GoodIn wsX13_length (wsV RX13 433 RX13 yX13_volumeOf wsX13_volumeOf) := goodIn_app (goodIn_of _ (by decide +kernel)) ggX13_length_X13_volumeOf
set_option maxRecDepth 20000 in
theorem ggX13_length_X13_bringsTo : GoodIn wsX13_length wsX13_bringsTo := goodIn_r _ [85, 23, 86, 87, 1, 9, 88, 89, 90, 29, 91, 3, 92, 93, 94, 7, 95, 15, 16, 17, 96, 97, 98, 99, 100, 101, 14, 18, 19, 20, 21, 2, 22, 24, 25, 26, 27, 28, 30, 31, 32, 33, 34, 35, 36, 37, 38, 39, 40, 41, 42, 43, 44, 45, 46, 47, 48, 49, 50, 51, 52, 53, 54, 55, 56, 57, 58, 59, 60, 61, 62, 63, 64, 65, 66, 67, 68, 69, 70, 71, 72, 73, 74, 75, 76, 77, 78, 79, 80, 81, 102, 103, 104, 105, 106, 107, 108, 109, 110, 111, 112, 113, 114, 115, 116, 117, 118, 119, 120, 121, 122, 123, 124, 125, 126, 127, 128, 129, 130, 131, 132, 133, 134, 135, 136, 137, 138, 139, 140, 141, 142, 143, 144, 145, 146, 147, 148, 149, 150, 151, 152, 153, 154, 155, 156, 157, 158, 159, 160, 161, 162, 163, 164, 165, 166, 167, 168, 169, 170, 171, 172, 173, 174, 175, 176, 177, 178, 179, 180, 181, 182, 183, 184, 185, 186, 187, 188, 189, 190, 191, 192, 193, 194, 195, 196, 197, 198, 199, 200, 201, 202, 203, 204, 205, 206, 207, 208, 209, 210, 211, 212, 213, 214, 215, 216, 217, 218, 219, 220, 221, 222, 223, 224, 225, 226, 227, 228, 229, 230, 231, 232, 233, 234, 235, 236, 237, 238, 239, 240, 241, 242, 243, 244] (by decide +kernel) (by decide +kernel)
set_option maxRecDepth 20000 in
theorem gX13_length_X13_bringsTo : GoodIn wsX13_length (wsV RX13 521 RX13 yX13_bringsTo wsX13_bringsTo) := goodIn_app (goodIn_of _ (by decide +kernel)) ggX13_length_X13_bringsTo
theorem dX13_length_0 : decode cX13_length 0 = .ok (.aload_n 0, 1) := by decide +kernel
theorem dX13_length_1 : decode cX13_length 1 = .ok (.iload_n 1, 1) := by decide +kernel
theorem dX13_length_2 : decode cX13_length 2 = .ok (.invokevirtual 467, 3) := by decide +kernel
theorem dX13_length_5 : decode cX13_length 5 = .ok (.ifCond .eq 32, 3) := by decide +kernel
theorem dX13_length_8 : decode cX13_length 8 = .ok (.aload_n 0, 1) := by decide +kernel
theorem dX13_length_9 : decode cX13_length 9 = .ok (.getfield 108, 3) := by decide +kernel
theorem dX13_length_12 : decode cX13_length 12 = .ok (.iload_n 1, 1) := by decide +kernel
theorem dX13_length_13 : decode cX13_length 13 = .ok (.baload, 1) := by decide +kernel
theorem dX13_length_14 : decode cX13_length 14 = .ok (.ifCond .ne 23, 3) := by decide +kernel
theorem dX13_length_17 : decode cX13_length 17 = .ok (.aload_n 0, 1) := by decide +kernel
theorem dX13_length_18 : decode cX13_length 18 = .ok (.getfield 114, 3) := by decide +kernel
theorem dX13_length_21 : decode cX13_length 21 = .ok (.iload_n 1, 1) := by decide +kernel
theorem dX13_length_22 : decode cX13_length 22 = .ok (.iaload, 1) := by decide +kernel
theorem dX13_length_23 : decode cX13_length 23 = .ok (.iconst (-1), 1) := by decide +kernel
theorem dX13_length_24 : decode cX13_length 24 = .ok (.if_icmp .ne 13, 3) := by decide +kernel
theorem dX13_length_27 : decode cX13_length 27 = .ok (.aload_n 0, 1) := by decide +kernel
theorem dX13_length_28 : decode cX13_length 28 = .ok (.iload_n 1, 1) := by decide +kernel
theorem dX13_length_29 : decode cX13_length 29 = .ok (.invokevirtual 433, 3) := by decide +kernel
theorem dX13_length_32 : decode cX13_length 32 = .ok (.bipush 6, 2) := by decide +kernel
theorem dX13_length_34 : decode cX13_length 34 = .ok (.if_icmp .ne 5, 3) := by decide +kernel
theorem dX13_length_37 : decode cX13_length 37 = .ok (.iconst (-1), 1) := by decide +kernel
theorem dX13_length_38 : decode cX13_length 38 = .ok (.ireturn, 1) := by decide +kernel
theorem dX13_length_39 : decode cX13_length 39 = .ok (.aload_n 0, 1) := by decide +kernel
theorem dX13_length_40 : decode cX13_length 40 = .ok (.aload_n 0, 1) := by decide +kernel
theorem dX13_length_41 : decode cX13_length 41 = .ok (.iload_n 1, 1) := by decide +kernel
theorem dX13_length_42 : decode cX13_length 42 = .ok (.invokevirtual 433, 3) := by decide +kernel
theorem dX13_length_45 : decode cX13_length 45 = .ok (.iload_n 2, 1) := by decide +kernel
theorem dX13_length_46 : decode cX13_length 46 = .ok (.invokevirtual 521, 3) := by decide +kernel
theorem dX13_length_49 : decode cX13_length 49 = .ok (.iconst (-1), 1) := by decide +kernel
theorem dX13_length_50 : decode cX13_length 50 = .ok (.if_icmp .ne 7, 3) := by decide +kernel
theorem dX13_length_53 : decode cX13_length 53 = .ok (.iconst (-1), 1) := by decide +kernel
theorem dX13_length_54 : decode cX13_length 54 = .ok (.goto 9, 3) := by decide +kernel
theorem dX13_length_57 : decode cX13_length 57 = .ok (.aload_n 0, 1) := by decide +kernel
theorem dX13_length_58 : decode cX13_length 58 = .ok (.getfield 219, 3) := by decide +kernel
theorem dX13_length_61 : decode cX13_length 61 = .ok (.iload_n 1, 1) := by decide +kernel
theorem dX13_length_62 : decode cX13_length 62 = .ok (.iaload, 1) := by decide +kernel
theorem dX13_length_63 : decode cX13_length 63 = .ok (.ireturn, 1) := by decide +kernel
set_option maxRecDepth 20000 in
theorem ggX13_gives_X13_in : GoodIn wsX13_gives wsX13_in := goodIn_r _ [18] (by decide +kernel) (by decide +kernel)
set_option maxRecDepth 20000 in
theorem gX13_gives_X13_in : GoodIn wsX13_gives (va_wsS RX13 256 yX13_in wsX13_in) := goodIn_app (goodIn_of _ (by decide +kernel)) ggX13_gives_X13_in
set_option maxRecDepth 20000 in
theorem ggX13_gives_X13_isArticle : GoodIn wsX13_gives wsX13_isArticle := goodIn_r _ [22, 23, 24, 25, 26, 17, 27, 28, 15, 16, 18, 138, 139, 140, 141, 142, 143, 144, 145, 146, 147, 148, 149, 150, 151, 152, 153, 154, 155, 156, 157, 158, 159, 160, 161, 162, 163, 164, 165, 166, 167, 168, 169, 170, 171, 172, 173, 174, 175, 176, 177, 178, 179, 180, 181, 182, 183, 184, 185, 186, 187, 188, 189, 190, 191, 192, 193, 194, 195, 196, 197, 198, 199, 200, 201, 202, 203, 204, 205, 206, 207, 208, 209, 210, 211, 212, 213, 214, 215, 216, 217, 218, 219, 220, 221, 222, 223, 224, 225, 226, 227, 228, 229, 230, 231, 232, 233, 234, 235, 236, 237, 238, 239, 240, 241] (by decide +kernel) (by decide +kernel)
set_option maxRecDepth 20000 in
theorem gX13_gives_X13_isArticle : GoodIn wsX13_gives (wsV RX13 467 RX13 yX13_isArticle wsX13_isArticle) := goodIn_app (goodIn_of _ (by decide +kernel)) ggX13_gives_X13_isArticle
set_option maxRecDepth 20000 in
theorem ggX13_gives_X13_isDone : GoodIn wsX13_gives wsX13_isDone := goodIn_r _ [32, 23, 11, 33, 34, 35, 17, 36, 37, 38, 138, 139, 140, 141, 142, 143, 144, 145, 146, 147, 148, 149, 150, 151, 152, 153, 154, 155, 156, 157, 158, 159, 160, 161, 162, 163, 164, 165, 166, 167, 168, 169, 170, 171, 172, 173, 174, 175, 176, 177, 178, 179, 180, 181, 182, 183, 184, 185, 186, 187, 188, 189, 190, 191, 192, 193, 194, 195, 196, 197, 198, 199, 200, 201, 202, 203, 204, 205, 206, 207, 208, 209, 210, 211, 212, 213, 214, 215, 216, 217, 218, 219, 220, 221, 222, 223, 224, 225, 226, 227, 228, 229, 230, 231, 232, 233, 234, 235, 236, 237, 238, 239, 240, 241] (by decide +kernel) (by decide +kernel)
set_option maxRecDepth 20000 in
theorem gX13_gives_X13_isDone : GoodIn wsX13_gives (wsV RX13 458 RX13 yX13_isDone wsX13_isDone) := goodIn_app (goodIn_of _ (by decide +kernel)) ggX13_gives_X13_isDone
set_option maxRecDepth 20000 in
theorem ggX13_gives_X13_linesOf : GoodIn wsX13_gives wsX13_linesOf := goodIn_r _ [36, 37, 38, 138, 139, 140, 141, 142, 143, 144, 145, 146, 147, 148, 149, 150, 151, 152, 153, 154, 155, 156, 157, 158, 159, 160, 161, 162, 163, 164, 165, 166, 167, 168, 169, 170, 171, 172, 173, 174, 175, 176, 177, 178, 179, 180, 181, 182, 183, 184, 185, 186, 187, 188, 189, 190, 191, 192, 193, 194, 195, 196, 197, 198, 199, 200, 201, 202, 203, 204, 205, 206, 207, 208, 209, 210, 211, 212, 213, 214, 215, 216, 217, 218, 219, 220, 221, 222, 223, 224, 225, 226, 227, 228, 229, 230, 231, 232, 233, 234, 235, 236, 237, 238, 239, 240, 241] (by decide +kernel) (by decide +kernel)
set_option maxRecDepth 20000 in
theorem gX13_gives_X13_linesOf : GoodIn wsX13_gives (wsV RX13 455 RX13 yX13_linesOf wsX13_linesOf) := goodIn_app (goodIn_of _ (by decide +kernel)) ggX13_gives_X13_linesOf
set_option maxRecDepth 20000 in
theorem ggX13_gives_X13_mayBeGiven : GoodIn wsX13_gives wsX13_mayBeGiven := goodIn_r _ [42, 5, 6, 8, 43, 44, 37, 38, 45, 46, 47, 19, 20, 21, 17, 22, 23, 24, 25, 26, 27, 28, 15, 16, 18, 29, 30, 31, 32, 11, 33, 34, 35, 36, 48, 49, 50, 51, 2, 52, 53, 54, 55, 56, 57, 58, 59, 60, 61, 62, 63, 64, 65, 66, 67, 68, 69, 70, 71, 72, 73, 74, 75, 76, 77, 78, 79, 80, 81, 82, 83, 84, 85, 86, 87, 88, 89, 90, 91, 92, 93, 94, 95, 96, 97, 98, 99, 100, 101, 102, 103, 104, 105, 106, 107, 108, 109, 110, 111, 112, 113, 114, 115, 116, 117, 118, 119, 120, 121, 122, 123, 124, 125, 126, 127, 128, 129, 130, 7, 138, 139, 140, 141, 142, 143, 144, 145, 146, 147, 148, 149, 150, 151, 152, 153, 154, 155, 156, 157, 158, 159, 160, 161, 162, 163, 164, 165, 166, 167, 168, 169, 170, 171, 172, 173, 174, 175, 176, 177, 178, 179, 180, 181, 182, 183, 184, 185, 186, 187, 188, 189, 190, 191, 192, 193, 194, 195, 196, 197, 198, 199, 200, 201, 202, 203, 204, 205, 206, 207, 208, 209, 210, 211, 212, 213, 214, 215, 216, 217, 218, 219, 220, 221, 222, 223, 224, 225, 226, 227, 228, 229, 230, 231, 232, 233, 234, 235, 236, 237, 238, 239, 240, 241] (by decide +kernel) (by decide +kernel)
set_option maxRecDepth 20000 in
theorem gX13_gives_X13_mayBeGiven : GoodIn wsX13_gives (wsV RX13 473 RX13 yX13_mayBeGiven wsX13_mayBeGiven) := goodIn_app (goodIn_of _ (by decide +kernel)) ggX13_gives_X13_mayBeGiven
set_option maxRecDepth 20000 in
theorem ggX13_gives_X13_way : GoodIn wsX13_gives wsX13_way := goodIn_r _ [134, 4, 135, 3, 13, 10, 58, 12, 14, 136, 137, 138, 139, 140, 141, 142, 143, 144, 145, 146, 147, 148, 149, 150, 151, 152, 153, 154, 155, 156, 157, 158, 159, 160, 161, 162, 163, 164, 165, 166, 167, 168, 169, 170, 171, 172, 173, 174, 175, 176, 177, 178, 179, 180, 181, 182, 183, 184, 185, 186, 187, 188, 189, 190, 191, 192, 193, 194, 195, 196, 197, 198, 199, 200, 201, 202, 203, 204, 205, 206, 207, 208, 209, 210, 211, 212, 213, 214, 215, 216, 217, 218, 219, 220, 221, 222, 223, 224, 225, 226, 227, 228, 229, 230, 231, 232, 233, 234, 235, 236, 237, 238, 239, 240, 241] (by decide +kernel) (by decide +kernel)
set_option maxRecDepth 20000 in
theorem gX13_gives_X13_way : GoodIn wsX13_gives (wsV RX13 534 RX13 yX13_way wsX13_way) := goodIn_app (goodIn_of _ (by decide +kernel)) ggX13_gives_X13_way
theorem dX13_gives_0 : decode cX13_gives 0 = .ok (.iload_n 1, 1) := by decide +kernel
theorem dX13_gives_1 : decode cX13_gives 1 = .ok (.ifCond .le 35, 3) := by decide +kernel
theorem dX13_gives_4 : decode cX13_gives 4 = .ok (.iload_n 2, 1) := by decide +kernel
theorem dX13_gives_5 : decode cX13_gives 5 = .ok (.ifCond .le 31, 3) := by decide +kernel
theorem dX13_gives_8 : decode cX13_gives 8 = .ok (.iload_n 1, 1) := by decide +kernel
theorem dX13_gives_9 : decode cX13_gives 9 = .ok (.ldc_w 524, 3) := by decide +kernel
theorem dX13_gives_12 : decode cX13_gives 12 = .ok (.if_icmp .ge 24, 3) := by decide +kernel
theorem dX13_gives_15 : decode cX13_gives 15 = .ok (.iload_n 2, 1) := by decide +kernel
theorem dX13_gives_16 : decode cX13_gives 16 = .ok (.iconst 1, 1) := by decide +kernel
theorem dX13_gives_17 : decode cX13_gives 17 = .ok (.aload_n 0, 1) := by decide +kernel
theorem dX13_gives_18 : decode cX13_gives 18 = .ok (.getfield 445, 3) := by decide +kernel
theorem dX13_gives_21 : decode cX13_gives 21 = .ok (.ishl, 1) := by decide +kernel
theorem dX13_gives_22 : decode cX13_gives 22 = .ok (.if_icmp .ge 14, 3) := by decide +kernel
theorem dX13_gives_25 : decode cX13_gives 25 = .ok (.iload_n 3, 1) := by decide +kernel
theorem dX13_gives_26 : decode cX13_gives 26 = .ok (.iconst 1, 1) := by decide +kernel
theorem dX13_gives_27 : decode cX13_gives 27 = .ok (.sipush 400, 3) := by decide +kernel
theorem dX13_gives_30 : decode cX13_gives 30 = .ok (.invokestatic 256, 3) := by decide +kernel
theorem dX13_gives_33 : decode cX13_gives 33 = .ok (.ifCond .ne 5, 3) := by decide +kernel
theorem dX13_gives_36 : decode cX13_gives 36 = .ok (.iconst 0, 1) := by decide +kernel
theorem dX13_gives_37 : decode cX13_gives 37 = .ok (.ireturn, 1) := by decide +kernel
theorem dX13_gives_38 : decode cX13_gives 38 = .ok (.aload_n 0, 1) := by decide +kernel
theorem dX13_gives_39 : decode cX13_gives 39 = .ok (.iconst 0, 1) := by decide +kernel
theorem dX13_gives_40 : decode cX13_gives 40 = .ok (.putfield 525, 3) := by decide +kernel
theorem dX13_gives_43 : decode cX13_gives 43 = .ok (.aload_n 0, 1) := by decide +kernel
theorem dX13_gives_44 : decode cX13_gives 44 = .ok (.iconst 0, 1) := by decide +kernel
theorem dX13_gives_45 : decode cX13_gives 45 = .ok (.putfield 528, 3) := by decide +kernel
theorem dX13_gives_48 : decode cX13_gives 48 = .ok (.iconst 0, 1) := by decide +kernel
theorem dX13_gives_49 : decode cX13_gives 49 = .ok (.istore 4, 2) := by decide +kernel
theorem dX13_gives_51 : decode cX13_gives 51 = .ok (.iload 4, 2) := by decide +kernel
theorem dX13_gives_53 : decode cX13_gives 53 = .ok (.bipush 30, 2) := by decide +kernel
theorem dX13_gives_55 : decode cX13_gives 55 = .ok (.if_icmp .ge 141, 3) := by decide +kernel
theorem dX13_gives_58 : decode cX13_gives 58 = .ok (.iload_n 1, 1) := by decide +kernel
theorem dX13_gives_59 : decode cX13_gives 59 = .ok (.iload 4, 2) := by decide +kernel
theorem dX13_gives_61 : decode cX13_gives 61 = .ok (.ishr, 1) := by decide +kernel
theorem dX13_gives_62 : decode cX13_gives 62 = .ok (.iconst 1, 1) := by decide +kernel
theorem dX13_gives_63 : decode cX13_gives 63 = .ok (.iand, 1) := by decide +kernel
theorem dX13_gives_64 : decode cX13_gives 64 = .ok (.ifCond .ne 6, 3) := by decide +kernel
theorem dX13_gives_67 : decode cX13_gives 67 = .ok (.goto 123, 3) := by decide +kernel
theorem dX13_gives_70 : decode cX13_gives 70 = .ok (.aload_n 0, 1) := by decide +kernel
theorem dX13_gives_71 : decode cX13_gives 71 = .ok (.iload 4, 2) := by decide +kernel
theorem dX13_gives_73 : decode cX13_gives 73 = .ok (.invokevirtual 467, 3) := by decide +kernel
theorem dX13_gives_76 : decode cX13_gives 76 = .ok (.ifCond .eq 68, 3) := by decide +kernel
theorem dX13_gives_79 : decode cX13_gives 79 = .ok (.aload_n 0, 1) := by decide +kernel
theorem dX13_gives_80 : decode cX13_gives 80 = .ok (.getfield 108, 3) := by decide +kernel
theorem dX13_gives_83 : decode cX13_gives 83 = .ok (.iload 4, 2) := by decide +kernel
theorem dX13_gives_85 : decode cX13_gives 85 = .ok (.baload, 1) := by decide +kernel
theorem dX13_gives_86 : decode cX13_gives 86 = .ok (.ifCond .ne 58, 3) := by decide +kernel
theorem dX13_gives_89 : decode cX13_gives 89 = .ok (.aload_n 0, 1) := by decide +kernel
theorem dX13_gives_90 : decode cX13_gives 90 = .ok (.getfield 114, 3) := by decide +kernel
theorem dX13_gives_93 : decode cX13_gives 93 = .ok (.iload 4, 2) := by decide +kernel
theorem dX13_gives_95 : decode cX13_gives 95 = .ok (.iaload, 1) := by decide +kernel
theorem dX13_gives_96 : decode cX13_gives 96 = .ok (.iconst (-1), 1) := by decide +kernel
theorem dX13_gives_97 : decode cX13_gives 97 = .ok (.if_icmp .ne 47, 3) := by decide +kernel
theorem dX13_gives_100 : decode cX13_gives 100 = .ok (.aload_n 0, 1) := by decide +kernel
theorem dX13_gives_101 : decode cX13_gives 101 = .ok (.iload 4, 2) := by decide +kernel
theorem dX13_gives_103 : decode cX13_gives 103 = .ok (.invokevirtual 458, 3) := by decide +kernel
theorem dX13_gives_106 : decode cX13_gives 106 = .ok (.ifCond .ne 38, 3) := by decide +kernel
theorem dX13_gives_109 : decode cX13_gives 109 = .ok (.aload_n 0, 1) := by decide +kernel
theorem dX13_gives_110 : decode cX13_gives 110 = .ok (.getfield 105, 3) := by decide +kernel
theorem dX13_gives_113 : decode cX13_gives 113 = .ok (.iload 4, 2) := by decide +kernel
theorem dX13_gives_115 : decode cX13_gives 115 = .ok (.iaload, 1) := by decide +kernel
theorem dX13_gives_116 : decode cX13_gives 116 = .ok (.iconst (-1), 1) := by decide +kernel
theorem dX13_gives_117 : decode cX13_gives 117 = .ok (.if_icmp .eq 18, 3) := by decide +kernel
theorem dX13_gives_120 : decode cX13_gives 120 = .ok (.aload_n 0, 1) := by decide +kernel
theorem dX13_gives_121 : decode cX13_gives 121 = .ok (.getfield 129, 3) := by decide +kernel
theorem dX13_gives_124 : decode cX13_gives 124 = .ok (.aload_n 0, 1) := by decide +kernel
theorem dX13_gives_125 : decode cX13_gives 125 = .ok (.getfield 105, 3) := by decide +kernel
theorem dX13_gives_128 : decode cX13_gives 128 = .ok (.iload 4, 2) := by decide +kernel
theorem dX13_gives_130 : decode cX13_gives 130 = .ok (.iaload, 1) := by decide +kernel
theorem dX13_gives_131 : decode cX13_gives 131 = .ok (.baload, 1) := by decide +kernel
theorem dX13_gives_132 : decode cX13_gives 132 = .ok (.ifCond .eq 12, 3) := by decide +kernel
theorem dX13_gives_135 : decode cX13_gives 135 = .ok (.aload_n 0, 1) := by decide +kernel
theorem dX13_gives_136 : decode cX13_gives 136 = .ok (.getfield 525, 3) := by decide +kernel
theorem dX13_gives_139 : decode cX13_gives 139 = .ok (.bipush 7, 2) := by decide +kernel
theorem dX13_gives_141 : decode cX13_gives 141 = .ok (.if_icmp .ne 5, 3) := by decide +kernel
theorem dX13_gives_144 : decode cX13_gives 144 = .ok (.iconst 0, 1) := by decide +kernel
theorem dX13_gives_145 : decode cX13_gives 145 = .ok (.ireturn, 1) := by decide +kernel
theorem dX13_gives_146 : decode cX13_gives 146 = .ok (.aload_n 0, 1) := by decide +kernel
theorem dX13_gives_147 : decode cX13_gives 147 = .ok (.getfield 222, 3) := by decide +kernel
theorem dX13_gives_150 : decode cX13_gives 150 = .ok (.aload_n 0, 1) := by decide +kernel
theorem dX13_gives_151 : decode cX13_gives 151 = .ok (.getfield 525, 3) := by decide +kernel
theorem dX13_gives_154 : decode cX13_gives 154 = .ok (.iload 4, 2) := by decide +kernel
theorem dX13_gives_156 : decode cX13_gives 156 = .ok (.iastore, 1) := by decide +kernel
theorem dX13_gives_157 : decode cX13_gives 157 = .ok (.aload_n 0, 1) := by decide +kernel
theorem dX13_gives_158 : decode cX13_gives 158 = .ok (.getfield 234, 3) := by decide +kernel
theorem dX13_gives_161 : decode cX13_gives 161 = .ok (.aload_n 0, 1) := by decide +kernel
theorem dX13_gives_162 : decode cX13_gives 162 = .ok (.getfield 525, 3) := by decide +kernel
theorem dX13_gives_165 : decode cX13_gives 165 = .ok (.aload_n 0, 1) := by decide +kernel
theorem dX13_gives_166 : decode cX13_gives 166 = .ok (.getfield 99, 3) := by decide +kernel
theorem dX13_gives_169 : decode cX13_gives 169 = .ok (.iload 4, 2) := by decide +kernel
theorem dX13_gives_171 : decode cX13_gives 171 = .ok (.iaload, 1) := by decide +kernel
theorem dX13_gives_172 : decode cX13_gives 172 = .ok (.aload_n 0, 1) := by decide +kernel
theorem dX13_gives_173 : decode cX13_gives 173 = .ok (.iload 4, 2) := by decide +kernel
theorem dX13_gives_175 : decode cX13_gives 175 = .ok (.invokevirtual 455, 3) := by decide +kernel
theorem dX13_gives_178 : decode cX13_gives 178 = .ok (.isub, 1) := by decide +kernel
theorem dX13_gives_179 : decode cX13_gives 179 = .ok (.iastore, 1) := by decide +kernel
theorem dX13_gives_180 : decode cX13_gives 180 = .ok (.aload_n 0, 1) := by decide +kernel
theorem dX13_gives_181 : decode cX13_gives 181 = .ok (.dup, 1) := by decide +kernel
theorem dX13_gives_182 : decode cX13_gives 182 = .ok (.getfield 525, 3) := by decide +kernel
theorem dX13_gives_185 : decode cX13_gives 185 = .ok (.iconst 1, 1) := by decide +kernel
theorem dX13_gives_186 : decode cX13_gives 186 = .ok (.iadd, 1) := by decide +kernel
theorem dX13_gives_187 : decode cX13_gives 187 = .ok (.putfield 525, 3) := by decide +kernel
theorem dX13_gives_190 : decode cX13_gives 190 = .ok (.iinc 4 1, 3) := by decide +kernel
theorem dX13_gives_193 : decode cX13_gives 193 = .ok (.goto (-142), 3) := by decide +kernel
theorem dX13_gives_196 : decode cX13_gives 196 = .ok (.iconst 0, 1) := by decide +kernel
theorem dX13_gives_197 : decode cX13_gives 197 = .ok (.istore 4, 2) := by decide +kernel
theorem dX13_gives_199 : decode cX13_gives 199 = .ok (.iload 4, 2) := by decide +kernel
theorem dX13_gives_201 : decode cX13_gives 201 = .ok (.aload_n 0, 1) := by decide +kernel
theorem dX13_gives_202 : decode cX13_gives 202 = .ok (.getfield 445, 3) := by decide +kernel
theorem dX13_gives_205 : decode cX13_gives 205 = .ok (.if_icmp .ge 63, 3) := by decide +kernel
theorem dX13_gives_208 : decode cX13_gives 208 = .ok (.iload_n 2, 1) := by decide +kernel
theorem dX13_gives_209 : decode cX13_gives 209 = .ok (.iload 4, 2) := by decide +kernel
theorem dX13_gives_211 : decode cX13_gives 211 = .ok (.ishr, 1) := by decide +kernel
theorem dX13_gives_212 : decode cX13_gives 212 = .ok (.iconst 1, 1) := by decide +kernel
theorem dX13_gives_213 : decode cX13_gives 213 = .ok (.iand, 1) := by decide +kernel
theorem dX13_gives_214 : decode cX13_gives 214 = .ok (.ifCond .ne 6, 3) := by decide +kernel
theorem dX13_gives_217 : decode cX13_gives 217 = .ok (.goto 45, 3) := by decide +kernel
theorem dX13_gives_220 : decode cX13_gives 220 = .ok (.aload_n 0, 1) := by decide +kernel
theorem dX13_gives_221 : decode cX13_gives 221 = .ok (.getfield 129, 3) := by decide +kernel
theorem dX13_gives_224 : decode cX13_gives 224 = .ok (.iload 4, 2) := by decide +kernel
theorem dX13_gives_226 : decode cX13_gives 226 = .ok (.baload, 1) := by decide +kernel
theorem dX13_gives_227 : decode cX13_gives 227 = .ok (.ifCond .ne 12, 3) := by decide +kernel
theorem dX13_gives_230 : decode cX13_gives 230 = .ok (.aload_n 0, 1) := by decide +kernel
theorem dX13_gives_231 : decode cX13_gives 231 = .ok (.getfield 528, 3) := by decide +kernel
theorem dX13_gives_234 : decode cX13_gives 234 = .ok (.bipush 6, 2) := by decide +kernel
theorem dX13_gives_236 : decode cX13_gives 236 = .ok (.if_icmp .ne 5, 3) := by decide +kernel
theorem dX13_gives_239 : decode cX13_gives 239 = .ok (.iconst 0, 1) := by decide +kernel
theorem dX13_gives_240 : decode cX13_gives 240 = .ok (.ireturn, 1) := by decide +kernel
theorem dX13_gives_241 : decode cX13_gives 241 = .ok (.aload_n 0, 1) := by decide +kernel
theorem dX13_gives_242 : decode cX13_gives 242 = .ok (.getfield 225, 3) := by decide +kernel
theorem dX13_gives_245 : decode cX13_gives 245 = .ok (.aload_n 0, 1) := by decide +kernel
theorem dX13_gives_246 : decode cX13_gives 246 = .ok (.getfield 528, 3) := by decide +kernel
theorem dX13_gives_249 : decode cX13_gives 249 = .ok (.iload 4, 2) := by decide +kernel
theorem dX13_gives_251 : decode cX13_gives 251 = .ok (.iastore, 1) := by decide +kernel
theorem dX13_gives_252 : decode cX13_gives 252 = .ok (.aload_n 0, 1) := by decide +kernel
theorem dX13_gives_253 : decode cX13_gives 253 = .ok (.dup, 1) := by decide +kernel
theorem dX13_gives_254 : decode cX13_gives 254 = .ok (.getfield 528, 3) := by decide +kernel
theorem dX13_gives_257 : decode cX13_gives 257 = .ok (.iconst 1, 1) := by decide +kernel
theorem dX13_gives_258 : decode cX13_gives 258 = .ok (.iadd, 1) := by decide +kernel
theorem dX13_gives_259 : decode cX13_gives 259 = .ok (.putfield 528, 3) := by decide +kernel
theorem dX13_gives_262 : decode cX13_gives 262 = .ok (.iinc 4 1, 3) := by decide +kernel
theorem dX13_gives_265 : decode cX13_gives 265 = .ok (.goto (-66), 3) := by decide +kernel
theorem dX13_gives_268 : decode cX13_gives 268 = .ok (.iconst 1, 1) := by decide +kernel
theorem dX13_gives_269 : decode cX13_gives 269 = .ok (.istore 4, 2) := by decide +kernel
theorem dX13_gives_271 : decode cX13_gives 271 = .ok (.iconst 0, 1) := by decide +kernel
theorem dX13_gives_272 : decode cX13_gives 272 = .ok (.istore 5, 2) := by decide +kernel
theorem dX13_gives_274 : decode cX13_gives 274 = .ok (.iload 5, 2) := by decide +kernel
theorem dX13_gives_276 : decode cX13_gives 276 = .ok (.aload_n 0, 1) := by decide +kernel
theorem dX13_gives_277 : decode cX13_gives 277 = .ok (.getfield 525, 3) := by decide +kernel
theorem dX13_gives_280 : decode cX13_gives 280 = .ok (.if_icmp .ge 69, 3) := by decide +kernel
theorem dX13_gives_283 : decode cX13_gives 283 = .ok (.iload 4, 2) := by decide +kernel
theorem dX13_gives_285 : decode cX13_gives 285 = .ok (.aload_n 0, 1) := by decide +kernel
theorem dX13_gives_286 : decode cX13_gives 286 = .ok (.getfield 528, 3) := by decide +kernel
theorem dX13_gives_289 : decode cX13_gives 289 = .ok (.iconst 1, 1) := by decide +kernel
theorem dX13_gives_290 : decode cX13_gives 290 = .ok (.iadd, 1) := by decide +kernel
theorem dX13_gives_291 : decode cX13_gives 291 = .ok (.imul, 1) := by decide +kernel
theorem dX13_gives_292 : decode cX13_gives 292 = .ok (.istore 4, 2) := by decide +kernel
theorem dX13_gives_294 : decode cX13_gives 294 = .ok (.iconst 0, 1) := by decide +kernel
theorem dX13_gives_295 : decode cX13_gives 295 = .ok (.istore 6, 2) := by decide +kernel
theorem dX13_gives_297 : decode cX13_gives 297 = .ok (.iload 6, 2) := by decide +kernel
theorem dX13_gives_299 : decode cX13_gives 299 = .ok (.aload_n 0, 1) := by decide +kernel
theorem dX13_gives_300 : decode cX13_gives 300 = .ok (.getfield 528, 3) := by decide +kernel
theorem dX13_gives_303 : decode cX13_gives 303 = .ok (.if_icmp .ge 40, 3) := by decide +kernel
theorem dX13_gives_306 : decode cX13_gives 306 = .ok (.aload_n 0, 1) := by decide +kernel
theorem dX13_gives_307 : decode cX13_gives 307 = .ok (.getfield 228, 3) := by decide +kernel
theorem dX13_gives_310 : decode cX13_gives 310 = .ok (.bipush 6, 2) := by decide +kernel
theorem dX13_gives_312 : decode cX13_gives 312 = .ok (.iload 5, 2) := by decide +kernel
theorem dX13_gives_314 : decode cX13_gives 314 = .ok (.imul, 1) := by decide +kernel
theorem dX13_gives_315 : decode cX13_gives 315 = .ok (.iload 6, 2) := by decide +kernel
theorem dX13_gives_317 : decode cX13_gives 317 = .ok (.iadd, 1) := by decide +kernel
theorem dX13_gives_318 : decode cX13_gives 318 = .ok (.aload_n 0, 1) := by decide +kernel
theorem dX13_gives_319 : decode cX13_gives 319 = .ok (.aload_n 0, 1) := by decide +kernel
theorem dX13_gives_320 : decode cX13_gives 320 = .ok (.getfield 222, 3) := by decide +kernel
theorem dX13_gives_323 : decode cX13_gives 323 = .ok (.iload 5, 2) := by decide +kernel
theorem dX13_gives_325 : decode cX13_gives 325 = .ok (.iaload, 1) := by decide +kernel
theorem dX13_gives_326 : decode cX13_gives 326 = .ok (.aload_n 0, 1) := by decide +kernel
theorem dX13_gives_327 : decode cX13_gives 327 = .ok (.getfield 225, 3) := by decide +kernel
theorem dX13_gives_330 : decode cX13_gives 330 = .ok (.iload 6, 2) := by decide +kernel
theorem dX13_gives_332 : decode cX13_gives 332 = .ok (.iaload, 1) := by decide +kernel
theorem dX13_gives_333 : decode cX13_gives 333 = .ok (.invokevirtual 473, 3) := by decide +kernel
theorem dX13_gives_336 : decode cX13_gives 336 = .ok (.bastore, 1) := by decide +kernel
theorem dX13_gives_337 : decode cX13_gives 337 = .ok (.iinc 6 1, 3) := by decide +kernel
theorem dX13_gives_340 : decode cX13_gives 340 = .ok (.goto (-43), 3) := by decide +kernel
theorem dX13_gives_343 : decode cX13_gives 343 = .ok (.iinc 5 1, 3) := by decide +kernel
theorem dX13_gives_346 : decode cX13_gives 346 = .ok (.goto (-72), 3) := by decide +kernel
theorem dX13_gives_349 : decode cX13_gives 349 = .ok (.aload_n 0, 1) := by decide +kernel
theorem dX13_gives_350 : decode cX13_gives 350 = .ok (.iconst (-1), 1) := by decide +kernel
theorem dX13_gives_351 : decode cX13_gives 351 = .ok (.putfield 531, 3) := by decide +kernel
theorem dX13_gives_354 : decode cX13_gives 354 = .ok (.iconst 0, 1) := by decide +kernel
theorem dX13_gives_355 : decode cX13_gives 355 = .ok (.istore 5, 2) := by decide +kernel
theorem dX13_gives_357 : decode cX13_gives 357 = .ok (.iload 5, 2) := by decide +kernel
theorem dX13_gives_359 : decode cX13_gives 359 = .ok (.iload 4, 2) := by decide +kernel
theorem dX13_gives_361 : decode cX13_gives 361 = .ok (.if_icmp .ge 16, 3) := by decide +kernel
theorem dX13_gives_364 : decode cX13_gives 364 = .ok (.aload_n 0, 1) := by decide +kernel
theorem dX13_gives_365 : decode cX13_gives 365 = .ok (.iload 5, 2) := by decide +kernel
theorem dX13_gives_367 : decode cX13_gives 367 = .ok (.iload_n 3, 1) := by decide +kernel
theorem dX13_gives_368 : decode cX13_gives 368 = .ok (.invokevirtual 534, 3) := by decide +kernel
theorem dX13_gives_371 : decode cX13_gives 371 = .ok (.iinc 5 1, 3) := by decide +kernel
theorem dX13_gives_374 : decode cX13_gives 374 = .ok (.goto (-17), 3) := by decide +kernel
theorem dX13_gives_377 : decode cX13_gives 377 = .ok (.iconst 1, 1) := by decide +kernel
theorem dX13_gives_378 : decode cX13_gives 378 = .ok (.ireturn, 1) := by decide +kernel
theorem dX13_way_0 : decode cX13_way 0 = .ok (.iconst 0, 1) := by decide +kernel
theorem dX13_way_1 : decode cX13_way 1 = .ok (.istore_n 3, 1) := by decide +kernel
theorem dX13_way_2 : decode cX13_way 2 = .ok (.iload_n 3, 1) := by decide +kernel
theorem dX13_way_3 : decode cX13_way 3 = .ok (.aload_n 0, 1) := by decide +kernel
theorem dX13_way_4 : decode cX13_way 4 = .ok (.getfield 528, 3) := by decide +kernel
theorem dX13_way_7 : decode cX13_way 7 = .ok (.if_icmp .ge 16, 3) := by decide +kernel
theorem dX13_way_10 : decode cX13_way 10 = .ok (.aload_n 0, 1) := by decide +kernel
theorem dX13_way_11 : decode cX13_way 11 = .ok (.getfield 231, 3) := by decide +kernel
theorem dX13_way_14 : decode cX13_way 14 = .ok (.iload_n 3, 1) := by decide +kernel
theorem dX13_way_15 : decode cX13_way 15 = .ok (.iconst 0, 1) := by decide +kernel
theorem dX13_way_16 : decode cX13_way 16 = .ok (.iastore, 1) := by decide +kernel
theorem dX13_way_17 : decode cX13_way 17 = .ok (.iinc 3 1, 3) := by decide +kernel
theorem dX13_way_20 : decode cX13_way 20 = .ok (.goto (-18), 3) := by decide +kernel
theorem dX13_way_23 : decode cX13_way 23 = .ok (.iload_n 1, 1) := by decide +kernel
theorem dX13_way_24 : decode cX13_way 24 = .ok (.istore_n 3, 1) := by decide +kernel
theorem dX13_way_25 : decode cX13_way 25 = .ok (.iconst 0, 1) := by decide +kernel
theorem dX13_way_26 : decode cX13_way 26 = .ok (.istore 4, 2) := by decide +kernel
theorem dX13_way_28 : decode cX13_way 28 = .ok (.iconst 0, 1) := by decide +kernel
theorem dX13_way_29 : decode cX13_way 29 = .ok (.istore 5, 2) := by decide +kernel
theorem dX13_way_31 : decode cX13_way 31 = .ok (.aload_n 0, 1) := by decide +kernel
theorem dX13_way_32 : decode cX13_way 32 = .ok (.getfield 525, 3) := by decide +kernel
theorem dX13_way_35 : decode cX13_way 35 = .ok (.iconst 1, 1) := by decide +kernel
theorem dX13_way_36 : decode cX13_way 36 = .ok (.isub, 1) := by decide +kernel
theorem dX13_way_37 : decode cX13_way 37 = .ok (.istore 6, 2) := by decide +kernel
theorem dX13_way_39 : decode cX13_way 39 = .ok (.iload 6, 2) := by decide +kernel
theorem dX13_way_41 : decode cX13_way 41 = .ok (.ifCond .lt 129, 3) := by decide +kernel
theorem dX13_way_44 : decode cX13_way 44 = .ok (.iload_n 3, 1) := by decide +kernel
theorem dX13_way_45 : decode cX13_way 45 = .ok (.aload_n 0, 1) := by decide +kernel
theorem dX13_way_46 : decode cX13_way 46 = .ok (.getfield 528, 3) := by decide +kernel
theorem dX13_way_49 : decode cX13_way 49 = .ok (.iconst 1, 1) := by decide +kernel
theorem dX13_way_50 : decode cX13_way 50 = .ok (.iadd, 1) := by decide +kernel
theorem dX13_way_51 : decode cX13_way 51 = .ok (.irem, 1) := by decide +kernel
theorem dX13_way_52 : decode cX13_way 52 = .ok (.istore 7, 2) := by decide +kernel
theorem dX13_way_54 : decode cX13_way 54 = .ok (.iload_n 3, 1) := by decide +kernel
theorem dX13_way_55 : decode cX13_way 55 = .ok (.aload_n 0, 1) := by decide +kernel
theorem dX13_way_56 : decode cX13_way 56 = .ok (.getfield 528, 3) := by decide +kernel
theorem dX13_way_59 : decode cX13_way 59 = .ok (.iconst 1, 1) := by decide +kernel
theorem dX13_way_60 : decode cX13_way 60 = .ok (.iadd, 1) := by decide +kernel
theorem dX13_way_61 : decode cX13_way 61 = .ok (.idiv, 1) := by decide +kernel
theorem dX13_way_62 : decode cX13_way 62 = .ok (.istore_n 3, 1) := by decide +kernel
theorem dX13_way_63 : decode cX13_way 63 = .ok (.iload 7, 2) := by decide +kernel
theorem dX13_way_65 : decode cX13_way 65 = .ok (.aload_n 0, 1) := by decide +kernel
theorem dX13_way_66 : decode cX13_way 66 = .ok (.getfield 528, 3) := by decide +kernel
theorem dX13_way_69 : decode cX13_way 69 = .ok (.if_icmp .ne 6, 3) := by decide +kernel
theorem dX13_way_72 : decode cX13_way 72 = .ok (.goto 92, 3) := by decide +kernel
theorem dX13_way_75 : decode cX13_way 75 = .ok (.aload_n 0, 1) := by decide +kernel
theorem dX13_way_76 : decode cX13_way 76 = .ok (.getfield 228, 3) := by decide +kernel
theorem dX13_way_79 : decode cX13_way 79 = .ok (.bipush 6, 2) := by decide +kernel
theorem dX13_way_81 : decode cX13_way 81 = .ok (.iload 6, 2) := by decide +kernel
theorem dX13_way_83 : decode cX13_way 83 = .ok (.imul, 1) := by decide +kernel
theorem dX13_way_84 : decode cX13_way 84 = .ok (.iload 7, 2) := by decide +kernel
theorem dX13_way_86 : decode cX13_way 86 = .ok (.iadd, 1) := by decide +kernel
theorem dX13_way_87 : decode cX13_way 87 = .ok (.baload, 1) := by decide +kernel
theorem dX13_way_88 : decode cX13_way 88 = .ok (.ifCond .ne 4, 3) := by decide +kernel
theorem dX13_way_91 : decode cX13_way 91 = .ok (.return_, 1) := by decide +kernel
theorem dX13_way_92 : decode cX13_way 92 = .ok (.aload_n 0, 1) := by decide +kernel
theorem dX13_way_93 : decode cX13_way 93 = .ok (.getfield 231, 3) := by decide +kernel
theorem dX13_way_96 : decode cX13_way 96 = .ok (.iload 7, 2) := by decide +kernel
theorem dX13_way_98 : decode cX13_way 98 = .ok (.dup2, 1) := by decide +kernel
theorem dX13_way_99 : decode cX13_way 99 = .ok (.iaload, 1) := by decide +kernel
theorem dX13_way_100 : decode cX13_way 100 = .ok (.aload_n 0, 1) := by decide +kernel
theorem dX13_way_101 : decode cX13_way 101 = .ok (.getfield 234, 3) := by decide +kernel
theorem dX13_way_104 : decode cX13_way 104 = .ok (.iload 6, 2) := by decide +kernel
theorem dX13_way_106 : decode cX13_way 106 = .ok (.iaload, 1) := by decide +kernel
theorem dX13_way_107 : decode cX13_way 107 = .ok (.iadd, 1) := by decide +kernel
theorem dX13_way_108 : decode cX13_way 108 = .ok (.iastore, 1) := by decide +kernel
theorem dX13_way_109 : decode cX13_way 109 = .ok (.aload_n 0, 1) := by decide +kernel
theorem dX13_way_110 : decode cX13_way 110 = .ok (.getfield 231, 3) := by decide +kernel
theorem dX13_way_113 : decode cX13_way 113 = .ok (.iload 7, 2) := by decide +kernel
theorem dX13_way_115 : decode cX13_way 115 = .ok (.iaload, 1) := by decide +kernel
theorem dX13_way_116 : decode cX13_way 116 = .ok (.aload_n 0, 1) := by decide +kernel
theorem dX13_way_117 : decode cX13_way 117 = .ok (.getfield 123, 3) := by decide +kernel
theorem dX13_way_120 : decode cX13_way 120 = .ok (.aload_n 0, 1) := by decide +kernel
theorem dX13_way_121 : decode cX13_way 121 = .ok (.getfield 225, 3) := by decide +kernel
theorem dX13_way_124 : decode cX13_way 124 = .ok (.iload 7, 2) := by decide +kernel
theorem dX13_way_126 : decode cX13_way 126 = .ok (.iaload, 1) := by decide +kernel
theorem dX13_way_127 : decode cX13_way 127 = .ok (.iaload, 1) := by decide +kernel
theorem dX13_way_128 : decode cX13_way 128 = .ok (.iadd, 1) := by decide +kernel
theorem dX13_way_129 : decode cX13_way 129 = .ok (.iconst 1, 1) := by decide +kernel
theorem dX13_way_130 : decode cX13_way 130 = .ok (.isub, 1) := by decide +kernel
theorem dX13_way_131 : decode cX13_way 131 = .ok (.aload_n 0, 1) := by decide +kernel
theorem dX13_way_132 : decode cX13_way 132 = .ok (.getfield 123, 3) := by decide +kernel
theorem dX13_way_135 : decode cX13_way 135 = .ok (.aload_n 0, 1) := by decide +kernel
theorem dX13_way_136 : decode cX13_way 136 = .ok (.getfield 225, 3) := by decide +kernel
theorem dX13_way_139 : decode cX13_way 139 = .ok (.iload 7, 2) := by decide +kernel
theorem dX13_way_141 : decode cX13_way 141 = .ok (.iaload, 1) := by decide +kernel
theorem dX13_way_142 : decode cX13_way 142 = .ok (.iaload, 1) := by decide +kernel
theorem dX13_way_143 : decode cX13_way 143 = .ok (.idiv, 1) := by decide +kernel
theorem dX13_way_144 : decode cX13_way 144 = .ok (.iload_n 2, 1) := by decide +kernel
theorem dX13_way_145 : decode cX13_way 145 = .ok (.if_icmp .le 4, 3) := by decide +kernel
theorem dX13_way_148 : decode cX13_way 148 = .ok (.return_, 1) := by decide +kernel
theorem dX13_way_149 : decode cX13_way 149 = .ok (.iinc 4 1, 3) := by decide +kernel
theorem dX13_way_152 : decode cX13_way 152 = .ok (.iload 5, 2) := by decide +kernel
theorem dX13_way_154 : decode cX13_way 154 = .ok (.aload_n 0, 1) := by decide +kernel
theorem dX13_way_155 : decode cX13_way 155 = .ok (.getfield 234, 3) := by decide +kernel
theorem dX13_way_158 : decode cX13_way 158 = .ok (.iload 6, 2) := by decide +kernel
theorem dX13_way_160 : decode cX13_way 160 = .ok (.iaload, 1) := by decide +kernel
theorem dX13_way_161 : decode cX13_way 161 = .ok (.iadd, 1) := by decide +kernel
theorem dX13_way_162 : decode cX13_way 162 = .ok (.istore 5, 2) := by decide +kernel
theorem dX13_way_164 : decode cX13_way 164 = .ok (.iinc 6 (-1), 3) := by decide +kernel
theorem dX13_way_167 : decode cX13_way 167 = .ok (.goto (-128), 3) := by decide +kernel
theorem dX13_way_170 : decode cX13_way 170 = .ok (.iload 4, 2) := by decide +kernel
theorem dX13_way_172 : decode cX13_way 172 = .ok (.aload_n 0, 1) := by decide +kernel
theorem dX13_way_173 : decode cX13_way 173 = .ok (.getfield 531, 3) := by decide +kernel
theorem dX13_way_176 : decode cX13_way 176 = .ok (.if_icmp .lt 21, 3) := by decide +kernel
theorem dX13_way_179 : decode cX13_way 179 = .ok (.iload 4, 2) := by decide +kernel
theorem dX13_way_181 : decode cX13_way 181 = .ok (.aload_n 0, 1) := by decide +kernel
theorem dX13_way_182 : decode cX13_way 182 = .ok (.getfield 531, 3) := by decide +kernel
theorem dX13_way_185 : decode cX13_way 185 = .ok (.if_icmp .ne 13, 3) := by decide +kernel
theorem dX13_way_188 : decode cX13_way 188 = .ok (.iload 5, 2) := by decide +kernel
theorem dX13_way_190 : decode cX13_way 190 = .ok (.aload_n 0, 1) := by decide +kernel
theorem dX13_way_191 : decode cX13_way 191 = .ok (.getfield 537, 3) := by decide +kernel
theorem dX13_way_194 : decode cX13_way 194 = .ok (.if_icmp .lt 4, 3) := by decide +kernel
theorem dX13_way_197 : decode cX13_way 197 = .ok (.return_, 1) := by decide +kernel
theorem dX13_way_198 : decode cX13_way 198 = .ok (.aload_n 0, 1) := by decide +kernel
theorem dX13_way_199 : decode cX13_way 199 = .ok (.iload 4, 2) := by decide +kernel
theorem dX13_way_201 : decode cX13_way 201 = .ok (.putfield 531, 3) := by decide +kernel
theorem dX13_way_204 : decode cX13_way 204 = .ok (.aload_n 0, 1) := by decide +kernel
theorem dX13_way_205 : decode cX13_way 205 = .ok (.iload 5, 2) := by decide +kernel
theorem dX13_way_207 : decode cX13_way 207 = .ok (.putfield 537, 3) := by decide +kernel
theorem dX13_way_210 : decode cX13_way 210 = .ok (.aload_n 0, 1) := by decide +kernel
theorem dX13_way_211 : decode cX13_way 211 = .ok (.iload_n 1, 1) := by decide +kernel
theorem dX13_way_212 : decode cX13_way 212 = .ok (.putfield 540, 3) := by decide +kernel
theorem dX13_way_215 : decode cX13_way 215 = .ok (.return_, 1) := by decide +kernel
set_option maxRecDepth 20000 in
theorem ggX13_giving_X13_gives : GoodIn wsX13_giving wsX13_gives := goodIn_r _ [6, 7, 8, 9, 10, 11, 12, 13, 14, 15, 16, 17, 18, 19, 1, 20, 21, 5, 22, 23, 24, 25, 26, 27, 28, 29, 30, 31, 32, 33, 34, 35, 36, 37, 38, 39, 40, 41, 42, 43, 44, 45, 46, 47, 48, 49, 50, 51, 52, 53, 54, 55, 56, 57, 58, 59, 60, 61, 62, 63, 64, 65, 66, 67, 68, 69, 70, 71, 72, 73, 74, 75, 76, 77, 78, 79, 80, 81, 82, 83, 84, 85, 86, 87, 88, 89, 90, 91, 92, 93, 94, 95, 96, 97, 98, 99, 100, 101, 102, 103, 104, 105, 106, 107, 108, 109, 110, 111, 112, 113, 114, 115, 116, 117, 118, 119, 120, 121, 122, 123, 124, 125, 126, 127, 128, 129, 130, 131, 132, 133, 134, 135, 136, 137, 138, 139, 140, 141, 142, 143, 144, 145, 146, 147, 148, 149, 150, 151, 152, 153, 154, 155, 156, 157, 158, 159, 160, 161, 162, 163, 164, 165, 166, 167, 168, 169, 170, 171, 172, 173, 174, 175, 176, 177, 178, 179, 180, 181, 182, 183, 184, 185, 186, 187, 188, 189, 190, 191, 192, 193, 194, 195, 196, 197, 198, 199, 200, 201, 202, 203, 204, 205, 206, 207, 208, 209, 210, 211, 212, 213, 214, 215, 216, 217, 218, 219, 220, 221, 222, 223, 224, 225, 226, 227, 228, 229, 230, 231, 232, 233, 234, 235, 236, 237, 238, 239, 240, 241, 242, 243, 244, 245] (by decide +kernel) (by decide +kernel)
set_option maxRecDepth 20000 in
theorem gX13_giving_X13_gives : GoodIn wsX13_giving (wsV RX13 543 RX13 yX13_gives wsX13_gives) := goodIn_app (goodIn_of _ (by decide +kernel)) ggX13_giving_X13_gives
theorem dX13_giving_0 : decode cX13_giving 0 = .ok (.aload_n 0, 1) := by decide +kernel
theorem dX13_giving_1 : decode cX13_giving 1 = .ok (.iload_n 1, 1) := by decide +kernel
theorem dX13_giving_2 : decode cX13_giving 2 = .ok (.iload_n 2, 1) := by decide +kernel
theorem dX13_giving_3 : decode cX13_giving 3 = .ok (.iload_n 3, 1) := by decide +kernel
theorem dX13_giving_4 : decode cX13_giving 4 = .ok (.invokevirtual 543, 3) := by decide +kernel
theorem dX13_giving_7 : decode cX13_giving 7 = .ok (.ifCond .eq 10, 3) := by decide +kernel
theorem dX13_giving_10 : decode cX13_giving 10 = .ok (.aload_n 0, 1) := by decide +kernel
theorem dX13_giving_11 : decode cX13_giving 11 = .ok (.getfield 531, 3) := by decide +kernel
theorem dX13_giving_14 : decode cX13_giving 14 = .ok (.goto 4, 3) := by decide +kernel
theorem dX13_giving_17 : decode cX13_giving 17 = .ok (.iconst (-1), 1) := by decide +kernel
theorem dX13_giving_18 : decode cX13_giving 18 = .ok (.ireturn, 1) := by decide +kernel
set_option maxRecDepth 20000 in
theorem ggX13_given_X13_gives : GoodIn wsX13_given wsX13_gives := goodIn_r _ [10, 11, 12, 2, 4, 13, 14, 15, 16, 3, 17, 18, 5, 19, 20, 21, 22, 9, 23, 24, 25, 26, 27, 28, 29, 30, 31, 32, 33, 34, 35, 36, 37, 38, 39, 40, 41, 42, 43, 44, 45, 46, 47, 48, 49, 50, 51, 52, 53, 54, 55, 56, 57, 58, 59, 60, 61, 62, 63, 64, 65, 66, 67, 68, 69, 70, 71, 72, 73, 74, 75, 76, 77, 78, 79, 80, 81, 82, 83, 84, 85, 86, 87, 88, 89, 90, 91, 92, 93, 94, 95, 96, 97, 98, 99, 100, 101, 102, 103, 104, 105, 106, 107, 108, 109, 110, 111, 112, 113, 114, 115, 116, 117, 118, 119, 120, 121, 122, 123, 124, 125, 126, 127, 128, 129, 130, 131, 132, 133, 134, 135, 136, 137, 138, 139, 140, 141, 1, 142, 143, 144, 145, 146, 147, 148, 149, 150, 151, 152, 153, 154, 155, 156, 157, 158, 159, 160, 161, 162, 163, 164, 165, 166, 167, 168, 169, 170, 171, 172, 173, 174, 175, 176, 177, 178, 179, 180, 181, 182, 183, 184, 185, 186, 187, 188, 189, 190, 191, 192, 193, 194, 195, 196, 197, 198, 199, 200, 201, 202, 203, 204, 205, 206, 207, 208, 209, 210, 211, 212, 213, 214, 215, 216, 217, 218, 219, 220, 221, 222, 223, 224, 225, 226, 227, 228, 229, 230, 231, 232, 233, 234, 235, 236, 237, 238, 239, 240, 241, 242, 243, 244, 245] (by decide +kernel) (by decide +kernel)
set_option maxRecDepth 20000 in
theorem gX13_given_X13_gives : GoodIn wsX13_given (wsV RX13 543 RX13 yX13_gives wsX13_gives) := goodIn_app (goodIn_of _ (by decide +kernel)) ggX13_given_X13_gives
theorem dX13_given_0 : decode cX13_given 0 = .ok (.aload_n 0, 1) := by decide +kernel
theorem dX13_given_1 : decode cX13_given 1 = .ok (.iload_n 1, 1) := by decide +kernel
theorem dX13_given_2 : decode cX13_given 2 = .ok (.iload_n 2, 1) := by decide +kernel
theorem dX13_given_3 : decode cX13_given 3 = .ok (.iload_n 3, 1) := by decide +kernel
theorem dX13_given_4 : decode cX13_given 4 = .ok (.invokevirtual 543, 3) := by decide +kernel
theorem dX13_given_7 : decode cX13_given 7 = .ok (.ifCond .ne 5, 3) := by decide +kernel
theorem dX13_given_10 : decode cX13_given 10 = .ok (.iconst (-1), 1) := by decide +kernel
theorem dX13_given_11 : decode cX13_given 11 = .ok (.ireturn, 1) := by decide +kernel
theorem dX13_given_12 : decode cX13_given 12 = .ok (.aload_n 0, 1) := by decide +kernel
theorem dX13_given_13 : decode cX13_given 13 = .ok (.getfield 540, 3) := by decide +kernel
theorem dX13_given_16 : decode cX13_given 16 = .ok (.istore 5, 2) := by decide +kernel
theorem dX13_given_18 : decode cX13_given 18 = .ok (.aload_n 0, 1) := by decide +kernel
theorem dX13_given_19 : decode cX13_given 19 = .ok (.getfield 525, 3) := by decide +kernel
theorem dX13_given_22 : decode cX13_given 22 = .ok (.iconst 1, 1) := by decide +kernel
theorem dX13_given_23 : decode cX13_given 23 = .ok (.isub, 1) := by decide +kernel
theorem dX13_given_24 : decode cX13_given 24 = .ok (.istore 6, 2) := by decide +kernel
theorem dX13_given_26 : decode cX13_given 26 = .ok (.iload 6, 2) := by decide +kernel
theorem dX13_given_28 : decode cX13_given 28 = .ok (.ifCond .lt 67, 3) := by decide +kernel
theorem dX13_given_31 : decode cX13_given 31 = .ok (.aload_n 0, 1) := by decide +kernel
theorem dX13_given_32 : decode cX13_given 32 = .ok (.getfield 222, 3) := by decide +kernel
theorem dX13_given_35 : decode cX13_given 35 = .ok (.iload 6, 2) := by decide +kernel
theorem dX13_given_37 : decode cX13_given 37 = .ok (.iaload, 1) := by decide +kernel
theorem dX13_given_38 : decode cX13_given 38 = .ok (.iload 4, 2) := by decide +kernel
theorem dX13_given_40 : decode cX13_given 40 = .ok (.if_icmp .ne 38, 3) := by decide +kernel
theorem dX13_given_43 : decode cX13_given 43 = .ok (.iload 5, 2) := by decide +kernel
theorem dX13_given_45 : decode cX13_given 45 = .ok (.aload_n 0, 1) := by decide +kernel
theorem dX13_given_46 : decode cX13_given 46 = .ok (.getfield 528, 3) := by decide +kernel
theorem dX13_given_49 : decode cX13_given 49 = .ok (.iconst 1, 1) := by decide +kernel
theorem dX13_given_50 : decode cX13_given 50 = .ok (.iadd, 1) := by decide +kernel
theorem dX13_given_51 : decode cX13_given 51 = .ok (.irem, 1) := by decide +kernel
theorem dX13_given_52 : decode cX13_given 52 = .ok (.aload_n 0, 1) := by decide +kernel
theorem dX13_given_53 : decode cX13_given 53 = .ok (.getfield 528, 3) := by decide +kernel
theorem dX13_given_56 : decode cX13_given 56 = .ok (.if_icmp .ne 7, 3) := by decide +kernel
theorem dX13_given_59 : decode cX13_given 59 = .ok (.iconst (-1), 1) := by decide +kernel
theorem dX13_given_60 : decode cX13_given 60 = .ok (.goto 17, 3) := by decide +kernel
theorem dX13_given_63 : decode cX13_given 63 = .ok (.aload_n 0, 1) := by decide +kernel
theorem dX13_given_64 : decode cX13_given 64 = .ok (.getfield 225, 3) := by decide +kernel
theorem dX13_given_67 : decode cX13_given 67 = .ok (.iload 5, 2) := by decide +kernel
theorem dX13_given_69 : decode cX13_given 69 = .ok (.aload_n 0, 1) := by decide +kernel
theorem dX13_given_70 : decode cX13_given 70 = .ok (.getfield 528, 3) := by decide +kernel
theorem dX13_given_73 : decode cX13_given 73 = .ok (.iconst 1, 1) := by decide +kernel
theorem dX13_given_74 : decode cX13_given 74 = .ok (.iadd, 1) := by decide +kernel
theorem dX13_given_75 : decode cX13_given 75 = .ok (.irem, 1) := by decide +kernel
theorem dX13_given_76 : decode cX13_given 76 = .ok (.iaload, 1) := by decide +kernel
theorem dX13_given_77 : decode cX13_given 77 = .ok (.ireturn, 1) := by decide +kernel
theorem dX13_given_78 : decode cX13_given 78 = .ok (.iload 5, 2) := by decide +kernel
theorem dX13_given_80 : decode cX13_given 80 = .ok (.aload_n 0, 1) := by decide +kernel
theorem dX13_given_81 : decode cX13_given 81 = .ok (.getfield 528, 3) := by decide +kernel
theorem dX13_given_84 : decode cX13_given 84 = .ok (.iconst 1, 1) := by decide +kernel
theorem dX13_given_85 : decode cX13_given 85 = .ok (.iadd, 1) := by decide +kernel
theorem dX13_given_86 : decode cX13_given 86 = .ok (.idiv, 1) := by decide +kernel
theorem dX13_given_87 : decode cX13_given 87 = .ok (.istore 5, 2) := by decide +kernel
theorem dX13_given_89 : decode cX13_given 89 = .ok (.iinc 6 (-1), 3) := by decide +kernel
theorem dX13_given_92 : decode cX13_given 92 = .ok (.goto (-66), 3) := by decide +kernel
theorem dX13_given_95 : decode cX13_given 95 = .ok (.iconst (-1), 1) := by decide +kernel
theorem dX13_given_96 : decode cX13_given 96 = .ok (.ireturn, 1) := by decide +kernel
set_option maxRecDepth 20000 in
theorem ggX13_index_X13_isVolume : GoodIn wsX13_index wsX13_isVolume := goodIn_r _ [11, 12, 13, 10, 14] (by decide +kernel) (by decide +kernel)
set_option maxRecDepth 20000 in
theorem gX13_index_X13_isVolume : GoodIn wsX13_index (va_wsS RX13 377 yX13_isVolume wsX13_isVolume) := goodIn_app (goodIn_of _ (by decide +kernel)) ggX13_index_X13_isVolume
theorem dX13_index_0 : decode cX13_index 0 = .ok (.iload_n 2, 1) := by decide +kernel
theorem dX13_index_1 : decode cX13_index 1 = .ok (.invokestatic 377, 3) := by decide +kernel
theorem dX13_index_4 : decode cX13_index 4 = .ok (.ifCond .eq 16, 3) := by decide +kernel
theorem dX13_index_7 : decode cX13_index 7 = .ok (.aload_n 0, 1) := by decide +kernel
theorem dX13_index_8 : decode cX13_index 8 = .ok (.getfield 68, 3) := by decide +kernel
theorem dX13_index_11 : decode cX13_index 11 = .ok (.iload_n 2, 1) := by decide +kernel
theorem dX13_index_12 : decode cX13_index 12 = .ok (.baload, 1) := by decide +kernel
theorem dX13_index_13 : decode cX13_index 13 = .ok (.ifCond .eq 7, 3) := by decide +kernel
theorem dX13_index_16 : decode cX13_index 16 = .ok (.iload_n 3, 1) := by decide +kernel
theorem dX13_index_17 : decode cX13_index 17 = .ok (.ifCond .ge 5, 3) := by decide +kernel
theorem dX13_index_20 : decode cX13_index 20 = .ok (.iconst (-1), 1) := by decide +kernel
theorem dX13_index_21 : decode cX13_index 21 = .ok (.ireturn, 1) := by decide +kernel
theorem dX13_index_22 : decode cX13_index 22 = .ok (.iload_n 3, 1) := by decide +kernel
theorem dX13_index_23 : decode cX13_index 23 = .ok (.istore 4, 2) := by decide +kernel
theorem dX13_index_25 : decode cX13_index 25 = .ok (.aload_n 0, 1) := by decide +kernel
theorem dX13_index_26 : decode cX13_index 26 = .ok (.getfield 81, 3) := by decide +kernel
theorem dX13_index_29 : decode cX13_index 29 = .ok (.iload_n 2, 1) := by decide +kernel
theorem dX13_index_30 : decode cX13_index 30 = .ok (.iaload, 1) := by decide +kernel
theorem dX13_index_31 : decode cX13_index 31 = .ok (.bipush 40, 2) := by decide +kernel
theorem dX13_index_33 : decode cX13_index 33 = .ok (.iadd, 1) := by decide +kernel
theorem dX13_index_34 : decode cX13_index 34 = .ok (.iconst 1, 1) := by decide +kernel
theorem dX13_index_35 : decode cX13_index 35 = .ok (.isub, 1) := by decide +kernel
theorem dX13_index_36 : decode cX13_index 36 = .ok (.bipush 40, 2) := by decide +kernel
theorem dX13_index_38 : decode cX13_index 38 = .ok (.idiv, 1) := by decide +kernel
theorem dX13_index_39 : decode cX13_index 39 = .ok (.istore 5, 2) := by decide +kernel
theorem dX13_index_41 : decode cX13_index 41 = .ok (.iconst 1, 1) := by decide +kernel
theorem dX13_index_42 : decode cX13_index 42 = .ok (.istore 6, 2) := by decide +kernel
theorem dX13_index_44 : decode cX13_index 44 = .ok (.iload 6, 2) := by decide +kernel
theorem dX13_index_46 : decode cX13_index 46 = .ok (.iload 5, 2) := by decide +kernel
theorem dX13_index_48 : decode cX13_index 48 = .ok (.if_icmp .gt 100, 3) := by decide +kernel
theorem dX13_index_51 : decode cX13_index 51 = .ok (.iconst 0, 1) := by decide +kernel
theorem dX13_index_52 : decode cX13_index 52 = .ok (.istore 7, 2) := by decide +kernel
theorem dX13_index_54 : decode cX13_index 54 = .ok (.iconst 0, 1) := by decide +kernel
theorem dX13_index_55 : decode cX13_index 55 = .ok (.istore 8, 2) := by decide +kernel
theorem dX13_index_57 : decode cX13_index 57 = .ok (.iload 8, 2) := by decide +kernel
theorem dX13_index_59 : decode cX13_index 59 = .ok (.aload_n 0, 1) := by decide +kernel
theorem dX13_index_60 : decode cX13_index 60 = .ok (.getfield 452, 3) := by decide +kernel
theorem dX13_index_63 : decode cX13_index 63 = .ok (.if_icmp .ge 60, 3) := by decide +kernel
theorem dX13_index_66 : decode cX13_index 66 = .ok (.iload 7, 2) := by decide +kernel
theorem dX13_index_68 : decode cX13_index 68 = .ok (.ifCond .ne 55, 3) := by decide +kernel
theorem dX13_index_71 : decode cX13_index 71 = .ok (.aload_n 0, 1) := by decide +kernel
theorem dX13_index_72 : decode cX13_index 72 = .ok (.getfield 114, 3) := by decide +kernel
theorem dX13_index_75 : decode cX13_index 75 = .ok (.aload_n 0, 1) := by decide +kernel
theorem dX13_index_76 : decode cX13_index 76 = .ok (.getfield 135, 3) := by decide +kernel
theorem dX13_index_79 : decode cX13_index 79 = .ok (.iload 8, 2) := by decide +kernel
theorem dX13_index_81 : decode cX13_index 81 = .ok (.iaload, 1) := by decide +kernel
theorem dX13_index_82 : decode cX13_index 82 = .ok (.iaload, 1) := by decide +kernel
theorem dX13_index_83 : decode cX13_index 83 = .ok (.iload_n 2, 1) := by decide +kernel
theorem dX13_index_84 : decode cX13_index 84 = .ok (.if_icmp .ne 30, 3) := by decide +kernel
theorem dX13_index_87 : decode cX13_index 87 = .ok (.aload_n 0, 1) := by decide +kernel
theorem dX13_index_88 : decode cX13_index 88 = .ok (.getfield 156, 3) := by decide +kernel
theorem dX13_index_91 : decode cX13_index 91 = .ok (.iload 8, 2) := by decide +kernel
theorem dX13_index_93 : decode cX13_index 93 = .ok (.iaload, 1) := by decide +kernel
theorem dX13_index_94 : decode cX13_index 94 = .ok (.iload 6, 2) := by decide +kernel
theorem dX13_index_96 : decode cX13_index 96 = .ok (.if_icmp .ne 18, 3) := by decide +kernel
theorem dX13_index_99 : decode cX13_index 99 = .ok (.aload_n 0, 1) := by decide +kernel
theorem dX13_index_100 : decode cX13_index 100 = .ok (.getfield 150, 3) := by decide +kernel
theorem dX13_index_103 : decode cX13_index 103 = .ok (.iload 8, 2) := by decide +kernel
theorem dX13_index_105 : decode cX13_index 105 = .ok (.iaload, 1) := by decide +kernel
theorem dX13_index_106 : decode cX13_index 106 = .ok (.iload_n 1, 1) := by decide +kernel
theorem dX13_index_107 : decode cX13_index 107 = .ok (.if_icmp .ne 7, 3) := by decide +kernel
theorem dX13_index_110 : decode cX13_index 110 = .ok (.iconst 1, 1) := by decide +kernel
theorem dX13_index_111 : decode cX13_index 111 = .ok (.goto 4, 3) := by decide +kernel
theorem dX13_index_114 : decode cX13_index 114 = .ok (.iconst 0, 1) := by decide +kernel
theorem dX13_index_115 : decode cX13_index 115 = .ok (.istore 7, 2) := by decide +kernel
theorem dX13_index_117 : decode cX13_index 117 = .ok (.iinc 8 1, 3) := by decide +kernel
theorem dX13_index_120 : decode cX13_index 120 = .ok (.goto (-63), 3) := by decide +kernel
theorem dX13_index_123 : decode cX13_index 123 = .ok (.iload 7, 2) := by decide +kernel
theorem dX13_index_125 : decode cX13_index 125 = .ok (.ifCond .ne 6, 3) := by decide +kernel
theorem dX13_index_128 : decode cX13_index 128 = .ok (.goto 14, 3) := by decide +kernel
theorem dX13_index_131 : decode cX13_index 131 = .ok (.iload 4, 2) := by decide +kernel
theorem dX13_index_133 : decode cX13_index 133 = .ok (.ifCond .ne 6, 3) := by decide +kernel
theorem dX13_index_136 : decode cX13_index 136 = .ok (.iload 6, 2) := by decide +kernel
theorem dX13_index_138 : decode cX13_index 138 = .ok (.ireturn, 1) := by decide +kernel
theorem dX13_index_139 : decode cX13_index 139 = .ok (.iinc 4 (-1), 3) := by decide +kernel
theorem dX13_index_142 : decode cX13_index 142 = .ok (.iinc 6 1, 3) := by decide +kernel
theorem dX13_index_145 : decode cX13_index 145 = .ok (.goto (-101), 3) := by decide +kernel
theorem dX13_index_148 : decode cX13_index 148 = .ok (.iconst (-1), 1) := by decide +kernel
theorem dX13_index_149 : decode cX13_index 149 = .ok (.ireturn, 1) := by decide +kernel
set_option maxRecDepth 20000 in
theorem ggX13_steal_X13_in : GoodIn wsX13_steal wsX13_in := goodIn_r _ [6] (by decide +kernel) (by decide +kernel)
set_option maxRecDepth 20000 in
theorem gX13_steal_X13_in : GoodIn wsX13_steal (va_wsS RX13 256 yX13_in wsX13_in) := goodIn_app (goodIn_of _ (by decide +kernel)) ggX13_steal_X13_in
theorem dX13_steal_0 : decode cX13_steal 0 = .ok (.iload_n 1, 1) := by decide +kernel
theorem dX13_steal_1 : decode cX13_steal 1 = .ok (.iconst 0, 1) := by decide +kernel
theorem dX13_steal_2 : decode cX13_steal 2 = .ok (.sipush 999, 3) := by decide +kernel
theorem dX13_steal_5 : decode cX13_steal 5 = .ok (.invokestatic 256, 3) := by decide +kernel
theorem dX13_steal_8 : decode cX13_steal 8 = .ok (.ifCond .eq 12, 3) := by decide +kernel
theorem dX13_steal_11 : decode cX13_steal 11 = .ok (.aload_n 0, 1) := by decide +kernel
theorem dX13_steal_12 : decode cX13_steal 12 = .ok (.getfield 546, 3) := by decide +kernel
theorem dX13_steal_15 : decode cX13_steal 15 = .ok (.bipush 30, 2) := by decide +kernel
theorem dX13_steal_17 : decode cX13_steal 17 = .ok (.if_icmp .ne 5, 3) := by decide +kernel
theorem dX13_steal_20 : decode cX13_steal 20 = .ok (.iconst (-1), 1) := by decide +kernel
theorem dX13_steal_21 : decode cX13_steal 21 = .ok (.ireturn, 1) := by decide +kernel
theorem dX13_steal_22 : decode cX13_steal 22 = .ok (.aload_n 0, 1) := by decide +kernel
theorem dX13_steal_23 : decode cX13_steal 23 = .ok (.getfield 192, 3) := by decide +kernel
theorem dX13_steal_26 : decode cX13_steal 26 = .ok (.aload_n 0, 1) := by decide +kernel
theorem dX13_steal_27 : decode cX13_steal 27 = .ok (.getfield 546, 3) := by decide +kernel
theorem dX13_steal_30 : decode cX13_steal 30 = .ok (.iload_n 1, 1) := by decide +kernel
theorem dX13_steal_31 : decode cX13_steal 31 = .ok (.iastore, 1) := by decide +kernel
theorem dX13_steal_32 : decode cX13_steal 32 = .ok (.aload_n 0, 1) := by decide +kernel
theorem dX13_steal_33 : decode cX13_steal 33 = .ok (.dup, 1) := by decide +kernel
theorem dX13_steal_34 : decode cX13_steal 34 = .ok (.getfield 546, 3) := by decide +kernel
theorem dX13_steal_37 : decode cX13_steal 37 = .ok (.iconst 1, 1) := by decide +kernel
theorem dX13_steal_38 : decode cX13_steal 38 = .ok (.iadd, 1) := by decide +kernel
theorem dX13_steal_39 : decode cX13_steal 39 = .ok (.putfield 546, 3) := by decide +kernel
theorem dX13_steal_42 : decode cX13_steal 42 = .ok (.aload_n 0, 1) := by decide +kernel
theorem dX13_steal_43 : decode cX13_steal 43 = .ok (.getfield 546, 3) := by decide +kernel
theorem dX13_steal_46 : decode cX13_steal 46 = .ok (.ireturn, 1) := by decide +kernel
theorem dX13_forget_0 : decode cX13_forget 0 = .ok (.aload_n 0, 1) := by decide +kernel
theorem dX13_forget_1 : decode cX13_forget 1 = .ok (.getfield 546, 3) := by decide +kernel
theorem dX13_forget_4 : decode cX13_forget 4 = .ok (.istore_n 1, 1) := by decide +kernel
theorem dX13_forget_5 : decode cX13_forget 5 = .ok (.aload_n 0, 1) := by decide +kernel
theorem dX13_forget_6 : decode cX13_forget 6 = .ok (.iconst 0, 1) := by decide +kernel
theorem dX13_forget_7 : decode cX13_forget 7 = .ok (.putfield 546, 3) := by decide +kernel
theorem dX13_forget_10 : decode cX13_forget 10 = .ok (.iload_n 1, 1) := by decide +kernel
theorem dX13_forget_11 : decode cX13_forget 11 = .ok (.ireturn, 1) := by decide +kernel
set_option maxRecDepth 20000 in
theorem ggX13_thief_X13_isVolume : GoodIn wsX13_thief wsX13_isVolume := goodIn_r _ [15, 16, 17, 14, 18] (by decide +kernel) (by decide +kernel)
set_option maxRecDepth 20000 in
theorem gX13_thief_X13_isVolume : GoodIn wsX13_thief (va_wsS RX13 377 yX13_isVolume wsX13_isVolume) := goodIn_app (goodIn_of _ (by decide +kernel)) ggX13_thief_X13_isVolume
set_option maxRecDepth 20000 in
theorem ggX13_thief_X13_in : GoodIn wsX13_thief wsX13_in := goodIn_r _ [18] (by decide +kernel) (by decide +kernel)
set_option maxRecDepth 20000 in
theorem gX13_thief_X13_in : GoodIn wsX13_thief (va_wsS RX13 256 yX13_in wsX13_in) := goodIn_app (goodIn_of _ (by decide +kernel)) ggX13_thief_X13_in
set_option maxRecDepth 20000 in
theorem ggX13_thief_X13_laysOn : GoodIn wsX13_thief wsX13_laysOn := goodIn_r _ [22, 8, 23, 24, 7, 25, 10, 11, 26, 27, 28, 14, 29, 30, 31, 32, 33, 34, 35, 36, 37, 38, 39, 40, 41, 42, 43, 44, 45, 46, 47, 48, 49, 50, 51, 52, 53, 54, 55, 56, 57, 58, 59, 60, 61, 62, 63, 64, 65, 66, 67, 68, 69, 70, 71, 72, 73, 74, 75, 76, 77, 78, 79, 80, 81, 82, 83, 84, 85, 86, 87, 88, 89, 90, 91, 92, 93, 94, 95, 96, 97, 98, 99, 100, 101, 102, 103, 104, 105, 106, 107, 108, 109, 110, 111, 112, 113, 114, 115, 116, 117, 118, 119, 120, 121, 122, 123, 124, 125, 126, 127, 128, 129, 130, 131, 132, 133, 134, 135, 136, 137, 138, 139, 140, 141, 142, 143, 144, 145] (by decide +kernel) (by decide +kernel)
set_option maxRecDepth 20000 in
theorem gX13_thief_X13_laysOn : GoodIn wsX13_thief (wsV RX13 549 RX13 yX13_laysOn wsX13_laysOn) := goodIn_app (goodIn_of _ (by decide +kernel)) ggX13_thief_X13_laysOn
theorem dX13_thief_0 : decode cX13_thief 0 = .ok (.iload_n 1, 1) := by decide +kernel
theorem dX13_thief_1 : decode cX13_thief 1 = .ok (.invokestatic 377, 3) := by decide +kernel
theorem dX13_thief_4 : decode cX13_thief 4 = .ok (.ifCond .eq 21, 3) := by decide +kernel
theorem dX13_thief_7 : decode cX13_thief 7 = .ok (.aload_n 0, 1) := by decide +kernel
theorem dX13_thief_8 : decode cX13_thief 8 = .ok (.getfield 68, 3) := by decide +kernel
theorem dX13_thief_11 : decode cX13_thief 11 = .ok (.iload_n 1, 1) := by decide +kernel
theorem dX13_thief_12 : decode cX13_thief 12 = .ok (.baload, 1) := by decide +kernel
theorem dX13_thief_13 : decode cX13_thief 13 = .ok (.ifCond .eq 12, 3) := by decide +kernel
theorem dX13_thief_16 : decode cX13_thief 16 = .ok (.iload_n 2, 1) := by decide +kernel
theorem dX13_thief_17 : decode cX13_thief 17 = .ok (.iconst 0, 1) := by decide +kernel
theorem dX13_thief_18 : decode cX13_thief 18 = .ok (.iconst 1, 1) := by decide +kernel
theorem dX13_thief_19 : decode cX13_thief 19 = .ok (.invokestatic 256, 3) := by decide +kernel
theorem dX13_thief_22 : decode cX13_thief 22 = .ok (.ifCond .ne 5, 3) := by decide +kernel
theorem dX13_thief_25 : decode cX13_thief 25 = .ok (.iconst (-1), 1) := by decide +kernel
theorem dX13_thief_26 : decode cX13_thief 26 = .ok (.ireturn, 1) := by decide +kernel
theorem dX13_thief_27 : decode cX13_thief 27 = .ok (.iconst 0, 1) := by decide +kernel
theorem dX13_thief_28 : decode cX13_thief 28 = .ok (.istore_n 3, 1) := by decide +kernel
theorem dX13_thief_29 : decode cX13_thief 29 = .ok (.iconst 0, 1) := by decide +kernel
theorem dX13_thief_30 : decode cX13_thief 30 = .ok (.istore 4, 2) := by decide +kernel
theorem dX13_thief_32 : decode cX13_thief 32 = .ok (.iload 4, 2) := by decide +kernel
theorem dX13_thief_34 : decode cX13_thief 34 = .ok (.aload_n 0, 1) := by decide +kernel
theorem dX13_thief_35 : decode cX13_thief 35 = .ok (.getfield 452, 3) := by decide +kernel
theorem dX13_thief_38 : decode cX13_thief 38 = .ok (.if_icmp .ge 91, 3) := by decide +kernel
theorem dX13_thief_41 : decode cX13_thief 41 = .ok (.iconst 0, 1) := by decide +kernel
theorem dX13_thief_42 : decode cX13_thief 42 = .ok (.istore 5, 2) := by decide +kernel
theorem dX13_thief_44 : decode cX13_thief 44 = .ok (.iload 5, 2) := by decide +kernel
theorem dX13_thief_46 : decode cX13_thief 46 = .ok (.aload_n 0, 1) := by decide +kernel
theorem dX13_thief_47 : decode cX13_thief 47 = .ok (.getfield 452, 3) := by decide +kernel
theorem dX13_thief_50 : decode cX13_thief 50 = .ok (.if_icmp .ge 73, 3) := by decide +kernel
theorem dX13_thief_53 : decode cX13_thief 53 = .ok (.aload_n 0, 1) := by decide +kernel
theorem dX13_thief_54 : decode cX13_thief 54 = .ok (.getfield 114, 3) := by decide +kernel
theorem dX13_thief_57 : decode cX13_thief 57 = .ok (.aload_n 0, 1) := by decide +kernel
theorem dX13_thief_58 : decode cX13_thief 58 = .ok (.getfield 135, 3) := by decide +kernel
theorem dX13_thief_61 : decode cX13_thief 61 = .ok (.iload 5, 2) := by decide +kernel
theorem dX13_thief_63 : decode cX13_thief 63 = .ok (.iaload, 1) := by decide +kernel
theorem dX13_thief_64 : decode cX13_thief 64 = .ok (.iaload, 1) := by decide +kernel
theorem dX13_thief_65 : decode cX13_thief 65 = .ok (.iload_n 1, 1) := by decide +kernel
theorem dX13_thief_66 : decode cX13_thief 66 = .ok (.if_icmp .ne 51, 3) := by decide +kernel
theorem dX13_thief_69 : decode cX13_thief 69 = .ok (.aload_n 0, 1) := by decide +kernel
theorem dX13_thief_70 : decode cX13_thief 70 = .ok (.getfield 156, 3) := by decide +kernel
theorem dX13_thief_73 : decode cX13_thief 73 = .ok (.iload 5, 2) := by decide +kernel
theorem dX13_thief_75 : decode cX13_thief 75 = .ok (.iaload, 1) := by decide +kernel
theorem dX13_thief_76 : decode cX13_thief 76 = .ok (.iconst (-1), 1) := by decide +kernel
theorem dX13_thief_77 : decode cX13_thief 77 = .ok (.if_icmp .eq 40, 3) := by decide +kernel
theorem dX13_thief_80 : decode cX13_thief 80 = .ok (.aload_n 0, 1) := by decide +kernel
theorem dX13_thief_81 : decode cX13_thief 81 = .ok (.getfield 159, 3) := by decide +kernel
theorem dX13_thief_84 : decode cX13_thief 84 = .ok (.iload 5, 2) := by decide +kernel
theorem dX13_thief_86 : decode cX13_thief 86 = .ok (.iaload, 1) := by decide +kernel
theorem dX13_thief_87 : decode cX13_thief 87 = .ok (.iload 4, 2) := by decide +kernel
theorem dX13_thief_89 : decode cX13_thief 89 = .ok (.if_icmp .ne 28, 3) := by decide +kernel
theorem dX13_thief_92 : decode cX13_thief 92 = .ok (.aload_n 0, 1) := by decide +kernel
theorem dX13_thief_93 : decode cX13_thief 93 = .ok (.getfield 141, 3) := by decide +kernel
theorem dX13_thief_96 : decode cX13_thief 96 = .ok (.iload 5, 2) := by decide +kernel
theorem dX13_thief_98 : decode cX13_thief 98 = .ok (.iaload, 1) := by decide +kernel
theorem dX13_thief_99 : decode cX13_thief 99 = .ok (.iconst (-1), 1) := by decide +kernel
theorem dX13_thief_100 : decode cX13_thief 100 = .ok (.if_icmp .ne 6, 3) := by decide +kernel
theorem dX13_thief_103 : decode cX13_thief 103 = .ok (.goto 14, 3) := by decide +kernel
theorem dX13_thief_106 : decode cX13_thief 106 = .ok (.aload_n 0, 1) := by decide +kernel
theorem dX13_thief_107 : decode cX13_thief 107 = .ok (.getfield 237, 3) := by decide +kernel
theorem dX13_thief_110 : decode cX13_thief 110 = .ok (.iload_n 3, 1) := by decide +kernel
theorem dX13_thief_111 : decode cX13_thief 111 = .ok (.iload 5, 2) := by decide +kernel
theorem dX13_thief_113 : decode cX13_thief 113 = .ok (.iastore, 1) := by decide +kernel
theorem dX13_thief_114 : decode cX13_thief 114 = .ok (.iinc 3 1, 3) := by decide +kernel
theorem dX13_thief_117 : decode cX13_thief 117 = .ok (.iinc 5 1, 3) := by decide +kernel
theorem dX13_thief_120 : decode cX13_thief 120 = .ok (.goto (-76), 3) := by decide +kernel
theorem dX13_thief_123 : decode cX13_thief 123 = .ok (.iinc 4 1, 3) := by decide +kernel
theorem dX13_thief_126 : decode cX13_thief 126 = .ok (.goto (-94), 3) := by decide +kernel
theorem dX13_thief_129 : decode cX13_thief 129 = .ok (.sipush 301, 3) := by decide +kernel
theorem dX13_thief_132 : decode cX13_thief 132 = .ok (.istore 4, 2) := by decide +kernel
theorem dX13_thief_134 : decode cX13_thief 134 = .ok (.iconst 0, 1) := by decide +kernel
theorem dX13_thief_135 : decode cX13_thief 135 = .ok (.istore 5, 2) := by decide +kernel
theorem dX13_thief_137 : decode cX13_thief 137 = .ok (.iload 5, 2) := by decide +kernel
theorem dX13_thief_139 : decode cX13_thief 139 = .ok (.aload_n 0, 1) := by decide +kernel
theorem dX13_thief_140 : decode cX13_thief 140 = .ok (.getfield 546, 3) := by decide +kernel
theorem dX13_thief_143 : decode cX13_thief 143 = .ok (.if_icmp .gt 76, 3) := by decide +kernel
theorem dX13_thief_146 : decode cX13_thief 146 = .ok (.iconst 0, 1) := by decide +kernel
theorem dX13_thief_147 : decode cX13_thief 147 = .ok (.istore 6, 2) := by decide +kernel
theorem dX13_thief_149 : decode cX13_thief 149 = .ok (.iload 6, 2) := by decide +kernel
theorem dX13_thief_151 : decode cX13_thief 151 = .ok (.iload_n 3, 1) := by decide +kernel
theorem dX13_thief_152 : decode cX13_thief 152 = .ok (.if_icmp .gt 61, 3) := by decide +kernel
theorem dX13_thief_155 : decode cX13_thief 155 = .ok (.iload 4, 2) := by decide +kernel
theorem dX13_thief_157 : decode cX13_thief 157 = .ok (.iload 5, 2) := by decide +kernel
theorem dX13_thief_159 : decode cX13_thief 159 = .ok (.imul, 1) := by decide +kernel
theorem dX13_thief_160 : decode cX13_thief 160 = .ok (.iload 6, 2) := by decide +kernel
theorem dX13_thief_162 : decode cX13_thief 162 = .ok (.iadd, 1) := by decide +kernel
theorem dX13_thief_163 : decode cX13_thief 163 = .ok (.istore 7, 2) := by decide +kernel
theorem dX13_thief_165 : decode cX13_thief 165 = .ok (.aload_n 0, 1) := by decide +kernel
theorem dX13_thief_166 : decode cX13_thief 166 = .ok (.getfield 240, 3) := by decide +kernel
theorem dX13_thief_169 : decode cX13_thief 169 = .ok (.iload 7, 2) := by decide +kernel
theorem dX13_thief_171 : decode cX13_thief 171 = .ok (.iload 5, 2) := by decide +kernel
theorem dX13_thief_173 : decode cX13_thief 173 = .ok (.iload 6, 2) := by decide +kernel
theorem dX13_thief_175 : decode cX13_thief 175 = .ok (.iadd, 1) := by decide +kernel
theorem dX13_thief_176 : decode cX13_thief 176 = .ok (.iastore, 1) := by decide +kernel
theorem dX13_thief_177 : decode cX13_thief 177 = .ok (.aload_n 0, 1) := by decide +kernel
theorem dX13_thief_178 : decode cX13_thief 178 = .ok (.getfield 243, 3) := by decide +kernel
theorem dX13_thief_181 : decode cX13_thief 181 = .ok (.iload 7, 2) := by decide +kernel
theorem dX13_thief_183 : decode cX13_thief 183 = .ok (.iconst 0, 1) := by decide +kernel
theorem dX13_thief_184 : decode cX13_thief 184 = .ok (.iastore, 1) := by decide +kernel
theorem dX13_thief_185 : decode cX13_thief 185 = .ok (.iload 5, 2) := by decide +kernel
theorem dX13_thief_187 : decode cX13_thief 187 = .ok (.ifCond .le 20, 3) := by decide +kernel
theorem dX13_thief_190 : decode cX13_thief 190 = .ok (.iload 6, 2) := by decide +kernel
theorem dX13_thief_192 : decode cX13_thief 192 = .ok (.ifCond .le 15, 3) := by decide +kernel
theorem dX13_thief_195 : decode cX13_thief 195 = .ok (.aload_n 0, 1) := by decide +kernel
theorem dX13_thief_196 : decode cX13_thief 196 = .ok (.iload 7, 2) := by decide +kernel
theorem dX13_thief_198 : decode cX13_thief 198 = .ok (.iload 4, 2) := by decide +kernel
theorem dX13_thief_200 : decode cX13_thief 200 = .ok (.iload 5, 2) := by decide +kernel
theorem dX13_thief_202 : decode cX13_thief 202 = .ok (.iload 6, 2) := by decide +kernel
theorem dX13_thief_204 : decode cX13_thief 204 = .ok (.invokevirtual 549, 3) := by decide +kernel
theorem dX13_thief_207 : decode cX13_thief 207 = .ok (.iinc 6 1, 3) := by decide +kernel
theorem dX13_thief_210 : decode cX13_thief 210 = .ok (.goto (-61), 3) := by decide +kernel
theorem dX13_thief_213 : decode cX13_thief 213 = .ok (.iinc 5 1, 3) := by decide +kernel
theorem dX13_thief_216 : decode cX13_thief 216 = .ok (.goto (-79), 3) := by decide +kernel
theorem dX13_thief_219 : decode cX13_thief 219 = .ok (.iload_n 2, 1) := by decide +kernel
theorem dX13_thief_220 : decode cX13_thief 220 = .ok (.ifCond .ne 20, 3) := by decide +kernel
theorem dX13_thief_223 : decode cX13_thief 223 = .ok (.aload_n 0, 1) := by decide +kernel
theorem dX13_thief_224 : decode cX13_thief 224 = .ok (.getfield 240, 3) := by decide +kernel
theorem dX13_thief_227 : decode cX13_thief 227 = .ok (.iload 4, 2) := by decide +kernel
theorem dX13_thief_229 : decode cX13_thief 229 = .ok (.aload_n 0, 1) := by decide +kernel
theorem dX13_thief_230 : decode cX13_thief 230 = .ok (.getfield 546, 3) := by decide +kernel
theorem dX13_thief_233 : decode cX13_thief 233 = .ok (.imul, 1) := by decide +kernel
theorem dX13_thief_234 : decode cX13_thief 234 = .ok (.iload_n 3, 1) := by decide +kernel
theorem dX13_thief_235 : decode cX13_thief 235 = .ok (.iadd, 1) := by decide +kernel
theorem dX13_thief_236 : decode cX13_thief 236 = .ok (.iaload, 1) := by decide +kernel
theorem dX13_thief_237 : decode cX13_thief 237 = .ok (.goto 17, 3) := by decide +kernel
theorem dX13_thief_240 : decode cX13_thief 240 = .ok (.aload_n 0, 1) := by decide +kernel
theorem dX13_thief_241 : decode cX13_thief 241 = .ok (.getfield 243, 3) := by decide +kernel
theorem dX13_thief_244 : decode cX13_thief 244 = .ok (.iload 4, 2) := by decide +kernel
theorem dX13_thief_246 : decode cX13_thief 246 = .ok (.aload_n 0, 1) := by decide +kernel
theorem dX13_thief_247 : decode cX13_thief 247 = .ok (.getfield 546, 3) := by decide +kernel
theorem dX13_thief_250 : decode cX13_thief 250 = .ok (.imul, 1) := by decide +kernel
theorem dX13_thief_251 : decode cX13_thief 251 = .ok (.iload_n 3, 1) := by decide +kernel
theorem dX13_thief_252 : decode cX13_thief 252 = .ok (.iadd, 1) := by decide +kernel
theorem dX13_thief_253 : decode cX13_thief 253 = .ok (.iaload, 1) := by decide +kernel
theorem dX13_thief_254 : decode cX13_thief 254 = .ok (.ireturn, 1) := by decide +kernel
set_option maxRecDepth 20000 in
theorem ggX13_laysOn_X13_valueOf : GoodIn wsX13_laysOn wsX13_valueOf := goodIn_r _ [12, 13, 14, 15, 16, 11, 17, 18, 19, 20, 25, 26, 27, 28, 29, 30, 31, 32, 33, 34, 35, 36, 37, 38, 39, 40, 41, 42, 43, 44, 45, 46, 47, 48, 49, 50, 51, 52, 53, 54, 55, 56, 57, 58, 59, 60, 61, 62, 63, 64, 65, 66, 67, 68, 69, 70, 71, 72, 73, 74, 75, 76, 77, 78, 79, 80, 81, 82, 83, 84, 85, 86, 87, 88, 89, 90, 91, 92, 93, 94, 95, 96, 97, 98, 99, 100, 101, 102, 103, 104, 105, 106, 107, 108, 109, 110, 111, 112, 113, 114, 115, 116, 117, 118, 119, 120, 121, 122, 123, 124, 125, 126, 127, 128] (by decide +kernel) (by decide +kernel)
set_option maxRecDepth 20000 in
theorem gX13_laysOn_X13_valueOf : GoodIn wsX13_laysOn (wsV RX13 482 RX13 yX13_valueOf wsX13_valueOf) := goodIn_app (goodIn_of _ (by decide +kernel)) ggX13_laysOn_X13_valueOf
set_option maxRecDepth 20000 in
theorem ggX13_laysOn_X13_better : GoodIn wsX13_laysOn wsX13_better := goodIn_r _ [24, 6, 7, 25, 26, 27, 28, 29, 30, 31, 32, 33, 34, 35, 36, 37, 38, 39, 40, 41, 42, 43, 44, 45, 46, 47, 48, 49, 50, 51, 52, 53, 54, 55, 56, 57, 58, 59, 60, 61, 62, 63, 64, 65, 66, 67, 68, 69, 70, 71, 72, 73, 74, 75, 76, 77, 78, 79, 80, 81, 82, 83, 84, 85, 86, 87, 88, 89, 90, 91, 92, 93, 94, 95, 96, 97, 98, 99, 100, 101, 102, 103, 104, 105, 106, 107, 108, 109, 110, 111, 112, 113, 114, 115, 116, 117, 118, 119, 120, 121, 122, 123, 124, 125, 126, 127, 128] (by decide +kernel) (by decide +kernel)
set_option maxRecDepth 20000 in
theorem gX13_laysOn_X13_better : GoodIn wsX13_laysOn (wsV RX13 553 RX13 yX13_better wsX13_better) := goodIn_app (goodIn_of _ (by decide +kernel)) ggX13_laysOn_X13_better
theorem dX13_laysOn_0 : decode cX13_laysOn 0 = .ok (.aload_n 0, 1) := by decide +kernel
theorem dX13_laysOn_1 : decode cX13_laysOn 1 = .ok (.getfield 237, 3) := by decide +kernel
theorem dX13_laysOn_4 : decode cX13_laysOn 4 = .ok (.iload 4, 2) := by decide +kernel
theorem dX13_laysOn_6 : decode cX13_laysOn 6 = .ok (.iconst 1, 1) := by decide +kernel
theorem dX13_laysOn_7 : decode cX13_laysOn 7 = .ok (.isub, 1) := by decide +kernel
theorem dX13_laysOn_8 : decode cX13_laysOn 8 = .ok (.iaload, 1) := by decide +kernel
theorem dX13_laysOn_9 : decode cX13_laysOn 9 = .ok (.istore 5, 2) := by decide +kernel
theorem dX13_laysOn_11 : decode cX13_laysOn 11 = .ok (.aload_n 0, 1) := by decide +kernel
theorem dX13_laysOn_12 : decode cX13_laysOn 12 = .ok (.getfield 192, 3) := by decide +kernel
theorem dX13_laysOn_15 : decode cX13_laysOn 15 = .ok (.iload_n 3, 1) := by decide +kernel
theorem dX13_laysOn_16 : decode cX13_laysOn 16 = .ok (.iconst 1, 1) := by decide +kernel
theorem dX13_laysOn_17 : decode cX13_laysOn 17 = .ok (.isub, 1) := by decide +kernel
theorem dX13_laysOn_18 : decode cX13_laysOn 18 = .ok (.iaload, 1) := by decide +kernel
theorem dX13_laysOn_19 : decode cX13_laysOn 19 = .ok (.aload_n 0, 1) := by decide +kernel
theorem dX13_laysOn_20 : decode cX13_laysOn 20 = .ok (.getfield 147, 3) := by decide +kernel
theorem dX13_laysOn_23 : decode cX13_laysOn 23 = .ok (.iload 5, 2) := by decide +kernel
theorem dX13_laysOn_25 : decode cX13_laysOn 25 = .ok (.iaload, 1) := by decide +kernel
theorem dX13_laysOn_26 : decode cX13_laysOn 26 = .ok (.if_icmp .ne 7, 3) := by decide +kernel
theorem dX13_laysOn_29 : decode cX13_laysOn 29 = .ok (.iconst 1, 1) := by decide +kernel
theorem dX13_laysOn_30 : decode cX13_laysOn 30 = .ok (.goto 4, 3) := by decide +kernel
theorem dX13_laysOn_33 : decode cX13_laysOn 33 = .ok (.iconst 0, 1) := by decide +kernel
theorem dX13_laysOn_34 : decode cX13_laysOn 34 = .ok (.istore 6, 2) := by decide +kernel
theorem dX13_laysOn_36 : decode cX13_laysOn 36 = .ok (.aload_n 0, 1) := by decide +kernel
theorem dX13_laysOn_37 : decode cX13_laysOn 37 = .ok (.aload_n 0, 1) := by decide +kernel
theorem dX13_laysOn_38 : decode cX13_laysOn 38 = .ok (.getfield 141, 3) := by decide +kernel
theorem dX13_laysOn_41 : decode cX13_laysOn 41 = .ok (.iload 5, 2) := by decide +kernel
theorem dX13_laysOn_43 : decode cX13_laysOn 43 = .ok (.iaload, 1) := by decide +kernel
theorem dX13_laysOn_44 : decode cX13_laysOn 44 = .ok (.aload_n 0, 1) := by decide +kernel
theorem dX13_laysOn_45 : decode cX13_laysOn 45 = .ok (.getfield 383, 3) := by decide +kernel
theorem dX13_laysOn_48 : decode cX13_laysOn 48 = .ok (.invokevirtual 482, 3) := by decide +kernel
theorem dX13_laysOn_51 : decode cX13_laysOn 51 = .ok (.aload_n 0, 1) := by decide +kernel
theorem dX13_laysOn_52 : decode cX13_laysOn 52 = .ok (.getfield 147, 3) := by decide +kernel
theorem dX13_laysOn_55 : decode cX13_laysOn 55 = .ok (.iload 5, 2) := by decide +kernel
theorem dX13_laysOn_57 : decode cX13_laysOn 57 = .ok (.iaload, 1) := by decide +kernel
theorem dX13_laysOn_58 : decode cX13_laysOn 58 = .ok (.if_icmp .eq 7, 3) := by decide +kernel
theorem dX13_laysOn_61 : decode cX13_laysOn 61 = .ok (.iconst 1, 1) := by decide +kernel
theorem dX13_laysOn_62 : decode cX13_laysOn 62 = .ok (.goto 4, 3) := by decide +kernel
theorem dX13_laysOn_65 : decode cX13_laysOn 65 = .ok (.iconst 0, 1) := by decide +kernel
theorem dX13_laysOn_66 : decode cX13_laysOn 66 = .ok (.istore 7, 2) := by decide +kernel
theorem dX13_laysOn_68 : decode cX13_laysOn 68 = .ok (.aload_n 0, 1) := by decide +kernel
theorem dX13_laysOn_69 : decode cX13_laysOn 69 = .ok (.getfield 240, 3) := by decide +kernel
theorem dX13_laysOn_72 : decode cX13_laysOn 72 = .ok (.iload_n 1, 1) := by decide +kernel
theorem dX13_laysOn_73 : decode cX13_laysOn 73 = .ok (.aload_n 0, 1) := by decide +kernel
theorem dX13_laysOn_74 : decode cX13_laysOn 74 = .ok (.getfield 240, 3) := by decide +kernel
theorem dX13_laysOn_77 : decode cX13_laysOn 77 = .ok (.iload_n 1, 1) := by decide +kernel
theorem dX13_laysOn_78 : decode cX13_laysOn 78 = .ok (.iload_n 2, 1) := by decide +kernel
theorem dX13_laysOn_79 : decode cX13_laysOn 79 = .ok (.isub, 1) := by decide +kernel
theorem dX13_laysOn_80 : decode cX13_laysOn 80 = .ok (.iconst 1, 1) := by decide +kernel
theorem dX13_laysOn_81 : decode cX13_laysOn 81 = .ok (.isub, 1) := by decide +kernel
theorem dX13_laysOn_82 : decode cX13_laysOn 82 = .ok (.iaload, 1) := by decide +kernel
theorem dX13_laysOn_83 : decode cX13_laysOn 83 = .ok (.iload 6, 2) := by decide +kernel
theorem dX13_laysOn_85 : decode cX13_laysOn 85 = .ok (.ifCond .eq 7, 3) := by decide +kernel
theorem dX13_laysOn_88 : decode cX13_laysOn 88 = .ok (.iconst 0, 1) := by decide +kernel
theorem dX13_laysOn_89 : decode cX13_laysOn 89 = .ok (.goto 4, 3) := by decide +kernel
theorem dX13_laysOn_92 : decode cX13_laysOn 92 = .ok (.iconst 1, 1) := by decide +kernel
theorem dX13_laysOn_93 : decode cX13_laysOn 93 = .ok (.iadd, 1) := by decide +kernel
theorem dX13_laysOn_94 : decode cX13_laysOn 94 = .ok (.iastore, 1) := by decide +kernel
theorem dX13_laysOn_95 : decode cX13_laysOn 95 = .ok (.aload_n 0, 1) := by decide +kernel
theorem dX13_laysOn_96 : decode cX13_laysOn 96 = .ok (.getfield 243, 3) := by decide +kernel
theorem dX13_laysOn_99 : decode cX13_laysOn 99 = .ok (.iload_n 1, 1) := by decide +kernel
theorem dX13_laysOn_100 : decode cX13_laysOn 100 = .ok (.aload_n 0, 1) := by decide +kernel
theorem dX13_laysOn_101 : decode cX13_laysOn 101 = .ok (.getfield 243, 3) := by decide +kernel
theorem dX13_laysOn_104 : decode cX13_laysOn 104 = .ok (.iload_n 1, 1) := by decide +kernel
theorem dX13_laysOn_105 : decode cX13_laysOn 105 = .ok (.iload_n 2, 1) := by decide +kernel
theorem dX13_laysOn_106 : decode cX13_laysOn 106 = .ok (.isub, 1) := by decide +kernel
theorem dX13_laysOn_107 : decode cX13_laysOn 107 = .ok (.iconst 1, 1) := by decide +kernel
theorem dX13_laysOn_108 : decode cX13_laysOn 108 = .ok (.isub, 1) := by decide +kernel
theorem dX13_laysOn_109 : decode cX13_laysOn 109 = .ok (.iaload, 1) := by decide +kernel
theorem dX13_laysOn_110 : decode cX13_laysOn 110 = .ok (.iload 6, 2) := by decide +kernel
theorem dX13_laysOn_112 : decode cX13_laysOn 112 = .ok (.ifCond .eq 12, 3) := by decide +kernel
theorem dX13_laysOn_115 : decode cX13_laysOn 115 = .ok (.iload 7, 2) := by decide +kernel
theorem dX13_laysOn_117 : decode cX13_laysOn 117 = .ok (.ifCond .eq 7, 3) := by decide +kernel
theorem dX13_laysOn_120 : decode cX13_laysOn 120 = .ok (.iconst 1, 1) := by decide +kernel
theorem dX13_laysOn_121 : decode cX13_laysOn 121 = .ok (.goto 4, 3) := by decide +kernel
theorem dX13_laysOn_124 : decode cX13_laysOn 124 = .ok (.iconst 0, 1) := by decide +kernel
theorem dX13_laysOn_125 : decode cX13_laysOn 125 = .ok (.iadd, 1) := by decide +kernel
theorem dX13_laysOn_126 : decode cX13_laysOn 126 = .ok (.iastore, 1) := by decide +kernel
theorem dX13_laysOn_127 : decode cX13_laysOn 127 = .ok (.aload_n 0, 1) := by decide +kernel
theorem dX13_laysOn_128 : decode cX13_laysOn 128 = .ok (.iload_n 1, 1) := by decide +kernel
theorem dX13_laysOn_129 : decode cX13_laysOn 129 = .ok (.iload_n 1, 1) := by decide +kernel
theorem dX13_laysOn_130 : decode cX13_laysOn 130 = .ok (.iconst 1, 1) := by decide +kernel
theorem dX13_laysOn_131 : decode cX13_laysOn 131 = .ok (.isub, 1) := by decide +kernel
theorem dX13_laysOn_132 : decode cX13_laysOn 132 = .ok (.invokevirtual 553, 3) := by decide +kernel
theorem dX13_laysOn_135 : decode cX13_laysOn 135 = .ok (.aload_n 0, 1) := by decide +kernel
theorem dX13_laysOn_136 : decode cX13_laysOn 136 = .ok (.iload_n 1, 1) := by decide +kernel
theorem dX13_laysOn_137 : decode cX13_laysOn 137 = .ok (.iload_n 1, 1) := by decide +kernel
theorem dX13_laysOn_138 : decode cX13_laysOn 138 = .ok (.iload_n 2, 1) := by decide +kernel
theorem dX13_laysOn_139 : decode cX13_laysOn 139 = .ok (.isub, 1) := by decide +kernel
theorem dX13_laysOn_140 : decode cX13_laysOn 140 = .ok (.invokevirtual 553, 3) := by decide +kernel
theorem dX13_laysOn_143 : decode cX13_laysOn 143 = .ok (.return_, 1) := by decide +kernel
theorem dX13_better_0 : decode cX13_better 0 = .ok (.aload_n 0, 1) := by decide +kernel
theorem dX13_better_1 : decode cX13_better 1 = .ok (.getfield 240, 3) := by decide +kernel
theorem dX13_better_4 : decode cX13_better 4 = .ok (.iload_n 2, 1) := by decide +kernel
theorem dX13_better_5 : decode cX13_better 5 = .ok (.iaload, 1) := by decide +kernel
theorem dX13_better_6 : decode cX13_better 6 = .ok (.iconst 1, 1) := by decide +kernel
theorem dX13_better_7 : decode cX13_better 7 = .ok (.iadd, 1) := by decide +kernel
theorem dX13_better_8 : decode cX13_better 8 = .ok (.aload_n 0, 1) := by decide +kernel
theorem dX13_better_9 : decode cX13_better 9 = .ok (.getfield 240, 3) := by decide +kernel
theorem dX13_better_12 : decode cX13_better 12 = .ok (.iload_n 1, 1) := by decide +kernel
theorem dX13_better_13 : decode cX13_better 13 = .ok (.iaload, 1) := by decide +kernel
theorem dX13_better_14 : decode cX13_better 14 = .ok (.if_icmp .gt 35, 3) := by decide +kernel
theorem dX13_better_17 : decode cX13_better 17 = .ok (.aload_n 0, 1) := by decide +kernel
theorem dX13_better_18 : decode cX13_better 18 = .ok (.getfield 240, 3) := by decide +kernel
theorem dX13_better_21 : decode cX13_better 21 = .ok (.iload_n 2, 1) := by decide +kernel
theorem dX13_better_22 : decode cX13_better 22 = .ok (.iaload, 1) := by decide +kernel
theorem dX13_better_23 : decode cX13_better 23 = .ok (.iconst 1, 1) := by decide +kernel
theorem dX13_better_24 : decode cX13_better 24 = .ok (.iadd, 1) := by decide +kernel
theorem dX13_better_25 : decode cX13_better 25 = .ok (.aload_n 0, 1) := by decide +kernel
theorem dX13_better_26 : decode cX13_better 26 = .ok (.getfield 240, 3) := by decide +kernel
theorem dX13_better_29 : decode cX13_better 29 = .ok (.iload_n 1, 1) := by decide +kernel
theorem dX13_better_30 : decode cX13_better 30 = .ok (.iaload, 1) := by decide +kernel
theorem dX13_better_31 : decode cX13_better 31 = .ok (.if_icmp .ne 19, 3) := by decide +kernel
theorem dX13_better_34 : decode cX13_better 34 = .ok (.aload_n 0, 1) := by decide +kernel
theorem dX13_better_35 : decode cX13_better 35 = .ok (.getfield 243, 3) := by decide +kernel
theorem dX13_better_38 : decode cX13_better 38 = .ok (.iload_n 2, 1) := by decide +kernel
theorem dX13_better_39 : decode cX13_better 39 = .ok (.iaload, 1) := by decide +kernel
theorem dX13_better_40 : decode cX13_better 40 = .ok (.aload_n 0, 1) := by decide +kernel
theorem dX13_better_41 : decode cX13_better 41 = .ok (.getfield 243, 3) := by decide +kernel
theorem dX13_better_44 : decode cX13_better 44 = .ok (.iload_n 1, 1) := by decide +kernel
theorem dX13_better_45 : decode cX13_better 45 = .ok (.iaload, 1) := by decide +kernel
theorem dX13_better_46 : decode cX13_better 46 = .ok (.if_icmp .gt 4, 3) := by decide +kernel
theorem dX13_better_49 : decode cX13_better 49 = .ok (.return_, 1) := by decide +kernel
theorem dX13_better_50 : decode cX13_better 50 = .ok (.aload_n 0, 1) := by decide +kernel
theorem dX13_better_51 : decode cX13_better 51 = .ok (.getfield 240, 3) := by decide +kernel
theorem dX13_better_54 : decode cX13_better 54 = .ok (.iload_n 1, 1) := by decide +kernel
theorem dX13_better_55 : decode cX13_better 55 = .ok (.aload_n 0, 1) := by decide +kernel
theorem dX13_better_56 : decode cX13_better 56 = .ok (.getfield 240, 3) := by decide +kernel
theorem dX13_better_59 : decode cX13_better 59 = .ok (.iload_n 2, 1) := by decide +kernel
theorem dX13_better_60 : decode cX13_better 60 = .ok (.iaload, 1) := by decide +kernel
theorem dX13_better_61 : decode cX13_better 61 = .ok (.iconst 1, 1) := by decide +kernel
theorem dX13_better_62 : decode cX13_better 62 = .ok (.iadd, 1) := by decide +kernel
theorem dX13_better_63 : decode cX13_better 63 = .ok (.iastore, 1) := by decide +kernel
theorem dX13_better_64 : decode cX13_better 64 = .ok (.aload_n 0, 1) := by decide +kernel
theorem dX13_better_65 : decode cX13_better 65 = .ok (.getfield 243, 3) := by decide +kernel
theorem dX13_better_68 : decode cX13_better 68 = .ok (.iload_n 1, 1) := by decide +kernel
theorem dX13_better_69 : decode cX13_better 69 = .ok (.aload_n 0, 1) := by decide +kernel
theorem dX13_better_70 : decode cX13_better 70 = .ok (.getfield 243, 3) := by decide +kernel
theorem dX13_better_73 : decode cX13_better 73 = .ok (.iload_n 2, 1) := by decide +kernel
theorem dX13_better_74 : decode cX13_better 74 = .ok (.iaload, 1) := by decide +kernel
theorem dX13_better_75 : decode cX13_better 75 = .ok (.iastore, 1) := by decide +kernel
theorem dX13_better_76 : decode cX13_better 76 = .ok (.return_, 1) := by decide +kernel
set_option maxRecDepth 20000 in
theorem ggX13_is_X13_isEntry : GoodIn wsX13_is wsX13_isEntry := goodIn_r _ [12, 13, 14, 15, 11, 16, 96, 97, 98, 99, 100, 101, 102, 103, 104, 105, 106, 107, 108, 109, 110, 111, 112, 113, 114, 115, 116, 117, 118, 119, 120, 121, 122, 123, 124, 125, 126, 127, 128, 129, 130, 131, 132, 133, 134, 135, 136, 137, 138, 139, 140, 141, 142, 143, 144, 145, 146, 147, 148, 149, 150, 151, 152, 153, 154, 155, 156, 157, 158, 159, 160, 161, 162, 163, 164, 165, 166, 167, 168, 169, 170, 171, 172, 173, 174, 175, 176, 177, 178, 179, 180, 181, 182, 183, 184, 185, 186, 187, 188, 189, 190, 191, 192, 193, 194, 195, 196, 197, 198, 199] (by decide +kernel) (by decide +kernel)
set_option maxRecDepth 20000 in
theorem gX13_is_X13_isEntry : GoodIn wsX13_is (wsV RX13 421 RX13 yX13_isEntry wsX13_isEntry) := goodIn_app (goodIn_of _ (by decide +kernel)) ggX13_is_X13_isEntry
set_option maxRecDepth 20000 in
theorem ggX13_is_X13_linesOf : GoodIn wsX13_is wsX13_linesOf := goodIn_r _ [20, 21, 22, 96, 97, 98, 99, 100, 101, 102, 103, 104, 105, 106, 107, 108, 109, 110, 111, 112, 113, 114, 115, 116, 117, 118, 119, 120, 121, 122, 123, 124, 125, 126, 127, 128, 129, 130, 131, 132, 133, 134, 135, 136, 137, 138, 139, 140, 141, 142, 143, 144, 145, 146, 147, 148, 149, 150, 151, 152, 153, 154, 155, 156, 157, 158, 159, 160, 161, 162, 163, 164, 165, 166, 167, 168, 169, 170, 171, 172, 173, 174, 175, 176, 177, 178, 179, 180, 181, 182, 183, 184, 185, 186, 187, 188, 189, 190, 191, 192, 193, 194, 195, 196, 197, 198, 199] (by decide +kernel) (by decide +kernel)
set_option maxRecDepth 20000 in
theorem gX13_is_X13_linesOf : GoodIn wsX13_is (wsV RX13 455 RX13 yX13_linesOf wsX13_linesOf) := goodIn_app (goodIn_of _ (by decide +kernel)) ggX13_is_X13_linesOf
set_option maxRecDepth 20000 in
theorem ggX13_is_X13_isDone : GoodIn wsX13_is wsX13_isDone := goodIn_r _ [26, 1, 4, 17, 18, 19, 11, 20, 21, 22, 96, 97, 98, 99, 100, 101, 102, 103, 104, 105, 106, 107, 108, 109, 110, 111, 112, 113, 114, 115, 116, 117, 118, 119, 120, 121, 122, 123, 124, 125, 126, 127, 128, 129, 130, 131, 132, 133, 134, 135, 136, 137, 138, 139, 140, 141, 142, 143, 144, 145, 146, 147, 148, 149, 150, 151, 152, 153, 154, 155, 156, 157, 158, 159, 160, 161, 162, 163, 164, 165, 166, 167, 168, 169, 170, 171, 172, 173, 174, 175, 176, 177, 178, 179, 180, 181, 182, 183, 184, 185, 186, 187, 188, 189, 190, 191, 192, 193, 194, 195, 196, 197, 198, 199] (by decide +kernel) (by decide +kernel)
set_option maxRecDepth 20000 in
theorem gX13_is_X13_isDone : GoodIn wsX13_is (wsV RX13 458 RX13 yX13_isDone wsX13_isDone) := goodIn_app (goodIn_of _ (by decide +kernel)) ggX13_is_X13_isDone
set_option maxRecDepth 20000 in
theorem ggX13_is_X13_volumeOf : GoodIn wsX13_is wsX13_volumeOf := goodIn_r _ [30, 7, 31, 32, 33, 34, 35, 11, 36, 37, 38, 39, 40, 41, 42, 43, 44, 45, 46, 47, 48, 49, 50, 51, 52, 53, 54, 55, 56, 57, 58, 59, 60, 61, 62, 63, 64, 65, 66, 67, 68, 69, 70, 71, 72, 73, 74, 75, 76, 77, 78, 79, 80, 81, 82, 83, 84, 85, 86, 87, 88, 89, 90, 96, 97, 98, 99, 100, 101, 102, 103, 104, 105, 106, 107, 108, 109, 110, 111, 112, 113, 114, 115, 116, 117, 118, 119, 120, 121, 122, 123, 124, 125, 126, 127, 128, 129, 130, 131, 132, 133, 134, 135, 136, 137, 138, 139, 140, 141, 142, 143, 144, 145, 146, 147, 148, 149, 150, 151, 152, 153, 154, 155, 156, 157, 158, 159, 160, 161, 162, 163, 164, 165, 166, 167, 168, 169, 170, 171, 172, 173, 174, 175, 176, 177, 178, 179, 180, 181, 182, 183, 184, 185, 186, 187, 188, 189, 190, 191, 192, 193, 194, 195, 196, 197, 198, 199] (by decide +kernel) (by decide +kernel)
set_option maxRecDepth 20000 in
theorem gX13_is_X13_volumeOf : GoodIn wsX13_is (wsV RX13 433 RX13 yX13_volumeOf wsX13_volumeOf) := goodIn_app (goodIn_of _ (by decide +kernel)) ggX13_is_X13_volumeOf
set_option maxRecDepth 20000 in
theorem ggX13_is_X13_hangs : GoodIn wsX13_is wsX13_hangs := goodIn_r _ [94, 1, 5, 95, 6, 23, 24, 25, 11, 26, 4, 17, 18, 19, 20, 21, 22, 96, 97, 98, 99, 100, 101, 102, 103, 104, 105, 106, 107, 108, 109, 110, 111, 112, 113, 114, 115, 116, 117, 118, 119, 120, 121, 122, 123, 124, 125, 126, 127, 128, 129, 130, 131, 132, 133, 134, 135, 136, 137, 138, 139, 140, 141, 142, 143, 144, 145, 146, 147, 148, 149, 150, 151, 152, 153, 154, 155, 156, 157, 158, 159, 160, 161, 162, 163, 164, 165, 166, 167, 168, 169, 170, 171, 172, 173, 174, 175, 176, 177, 178, 179, 180, 181, 182, 183, 184, 185, 186, 187, 188, 189, 190, 191, 192, 193, 194, 195, 196, 197, 198, 199] (by decide +kernel) (by decide +kernel)
set_option maxRecDepth 20000 in
theorem gX13_is_X13_hangs : GoodIn wsX13_is (wsV RX13 485 RX13 yX13_hangs wsX13_hangs) := goodIn_app (goodIn_of _ (by decide +kernel)) ggX13_is_X13_hangs
theorem dX13_is_0 : decode cX13_is 0 = .ok (.aload_n 0, 1) := by decide +kernel
theorem dX13_is_1 : decode cX13_is 1 = .ok (.iload_n 1, 1) := by decide +kernel
theorem dX13_is_2 : decode cX13_is 2 = .ok (.invokevirtual 421, 3) := by decide +kernel
theorem dX13_is_5 : decode cX13_is 5 = .ok (.ifCond .ne 5, 3) := by decide +kernel
theorem dX13_is_8 : decode cX13_is 8 = .ok (.iconst (-1), 1) := by decide +kernel
theorem dX13_is_9 : decode cX13_is 9 = .ok (.ireturn, 1) := by decide +kernel
theorem dX13_is_10 : decode cX13_is 10 = .ok (.iload_n 1, 1) := by decide +kernel
theorem dX13_is_11 : decode cX13_is 11 = .ok (.istore_n 3, 1) := by decide +kernel
theorem dX13_is_12 : decode cX13_is 12 = .ok (.aload_n 0, 1) := by decide +kernel
theorem dX13_is_13 : decode cX13_is 13 = .ok (.getfield 90, 3) := by decide +kernel
theorem dX13_is_16 : decode cX13_is 16 = .ok (.iload_n 3, 1) := by decide +kernel
theorem dX13_is_17 : decode cX13_is 17 = .ok (.iaload, 1) := by decide +kernel
theorem dX13_is_18 : decode cX13_is 18 = .ok (.ifCond .ne 7, 3) := by decide +kernel
theorem dX13_is_21 : decode cX13_is 21 = .ok (.iconst 1, 1) := by decide +kernel
theorem dX13_is_22 : decode cX13_is 22 = .ok (.goto 4, 3) := by decide +kernel
theorem dX13_is_25 : decode cX13_is 25 = .ok (.iconst 0, 1) := by decide +kernel
theorem dX13_is_26 : decode cX13_is 26 = .ok (.istore 4, 2) := by decide +kernel
theorem dX13_is_28 : decode cX13_is 28 = .ok (.iload_n 2, 1) := by decide +kernel
theorem dX13_is_29 : decode cX13_is 29 = .ok (.tableswitch 223 0 9 #[55, 62, 78, 94, 110, 116, 132, 155, 184, 207], 55) := by decide +kernel
theorem dX13_is_84 : decode cX13_is 84 = .ok (.aload_n 0, 1) := by decide +kernel
theorem dX13_is_85 : decode cX13_is 85 = .ok (.getfield 90, 3) := by decide +kernel
theorem dX13_is_88 : decode cX13_is 88 = .ok (.iload_n 3, 1) := by decide +kernel
theorem dX13_is_89 : decode cX13_is 89 = .ok (.iaload, 1) := by decide +kernel
theorem dX13_is_90 : decode cX13_is 90 = .ok (.ireturn, 1) := by decide +kernel
theorem dX13_is_91 : decode cX13_is 91 = .ok (.iload 4, 2) := by decide +kernel
theorem dX13_is_93 : decode cX13_is 93 = .ok (.ifCond .eq 12, 3) := by decide +kernel
theorem dX13_is_96 : decode cX13_is 96 = .ok (.aload_n 0, 1) := by decide +kernel
theorem dX13_is_97 : decode cX13_is 97 = .ok (.getfield 93, 3) := by decide +kernel
theorem dX13_is_100 : decode cX13_is 100 = .ok (.iload_n 3, 1) := by decide +kernel
theorem dX13_is_101 : decode cX13_is 101 = .ok (.iaload, 1) := by decide +kernel
theorem dX13_is_102 : decode cX13_is 102 = .ok (.goto 4, 3) := by decide +kernel
theorem dX13_is_105 : decode cX13_is 105 = .ok (.iconst (-1), 1) := by decide +kernel
theorem dX13_is_106 : decode cX13_is 106 = .ok (.ireturn, 1) := by decide +kernel
theorem dX13_is_107 : decode cX13_is 107 = .ok (.iload 4, 2) := by decide +kernel
theorem dX13_is_109 : decode cX13_is 109 = .ok (.ifCond .eq 12, 3) := by decide +kernel
theorem dX13_is_112 : decode cX13_is 112 = .ok (.aload_n 0, 1) := by decide +kernel
theorem dX13_is_113 : decode cX13_is 113 = .ok (.getfield 96, 3) := by decide +kernel
theorem dX13_is_116 : decode cX13_is 116 = .ok (.iload_n 3, 1) := by decide +kernel
theorem dX13_is_117 : decode cX13_is 117 = .ok (.iaload, 1) := by decide +kernel
theorem dX13_is_118 : decode cX13_is 118 = .ok (.goto 4, 3) := by decide +kernel
theorem dX13_is_121 : decode cX13_is 121 = .ok (.iconst (-1), 1) := by decide +kernel
theorem dX13_is_122 : decode cX13_is 122 = .ok (.ireturn, 1) := by decide +kernel
theorem dX13_is_123 : decode cX13_is 123 = .ok (.iload 4, 2) := by decide +kernel
theorem dX13_is_125 : decode cX13_is 125 = .ok (.ifCond .eq 12, 3) := by decide +kernel
theorem dX13_is_128 : decode cX13_is 128 = .ok (.aload_n 0, 1) := by decide +kernel
theorem dX13_is_129 : decode cX13_is 129 = .ok (.getfield 99, 3) := by decide +kernel
theorem dX13_is_132 : decode cX13_is 132 = .ok (.iload_n 3, 1) := by decide +kernel
theorem dX13_is_133 : decode cX13_is 133 = .ok (.iaload, 1) := by decide +kernel
theorem dX13_is_134 : decode cX13_is 134 = .ok (.goto 4, 3) := by decide +kernel
theorem dX13_is_137 : decode cX13_is 137 = .ok (.iconst (-1), 1) := by decide +kernel
theorem dX13_is_138 : decode cX13_is 138 = .ok (.ireturn, 1) := by decide +kernel
theorem dX13_is_139 : decode cX13_is 139 = .ok (.aload_n 0, 1) := by decide +kernel
theorem dX13_is_140 : decode cX13_is 140 = .ok (.iload_n 3, 1) := by decide +kernel
theorem dX13_is_141 : decode cX13_is 141 = .ok (.invokevirtual 455, 3) := by decide +kernel
theorem dX13_is_144 : decode cX13_is 144 = .ok (.ireturn, 1) := by decide +kernel
theorem dX13_is_145 : decode cX13_is 145 = .ok (.iload 4, 2) := by decide +kernel
theorem dX13_is_147 : decode cX13_is 147 = .ok (.ifCond .eq 12, 3) := by decide +kernel
theorem dX13_is_150 : decode cX13_is 150 = .ok (.aload_n 0, 1) := by decide +kernel
theorem dX13_is_151 : decode cX13_is 151 = .ok (.getfield 105, 3) := by decide +kernel
theorem dX13_is_154 : decode cX13_is 154 = .ok (.iload_n 3, 1) := by decide +kernel
theorem dX13_is_155 : decode cX13_is 155 = .ok (.iaload, 1) := by decide +kernel
theorem dX13_is_156 : decode cX13_is 156 = .ok (.goto 4, 3) := by decide +kernel
theorem dX13_is_159 : decode cX13_is 159 = .ok (.iconst (-1), 1) := by decide +kernel
theorem dX13_is_160 : decode cX13_is 160 = .ok (.ireturn, 1) := by decide +kernel
theorem dX13_is_161 : decode cX13_is 161 = .ok (.iload 4, 2) := by decide +kernel
theorem dX13_is_163 : decode cX13_is 163 = .ok (.ifCond .eq 19, 3) := by decide +kernel
theorem dX13_is_166 : decode cX13_is 166 = .ok (.aload_n 0, 1) := by decide +kernel
theorem dX13_is_167 : decode cX13_is 167 = .ok (.iload_n 3, 1) := by decide +kernel
theorem dX13_is_168 : decode cX13_is 168 = .ok (.invokevirtual 458, 3) := by decide +kernel
theorem dX13_is_171 : decode cX13_is 171 = .ok (.ifCond .eq 7, 3) := by decide +kernel
theorem dX13_is_174 : decode cX13_is 174 = .ok (.iconst 1, 1) := by decide +kernel
theorem dX13_is_175 : decode cX13_is 175 = .ok (.goto 8, 3) := by decide +kernel
theorem dX13_is_178 : decode cX13_is 178 = .ok (.iconst 0, 1) := by decide +kernel
theorem dX13_is_179 : decode cX13_is 179 = .ok (.goto 4, 3) := by decide +kernel
theorem dX13_is_182 : decode cX13_is 182 = .ok (.iconst (-1), 1) := by decide +kernel
theorem dX13_is_183 : decode cX13_is 183 = .ok (.ireturn, 1) := by decide +kernel
theorem dX13_is_184 : decode cX13_is 184 = .ok (.aload_n 0, 1) := by decide +kernel
theorem dX13_is_185 : decode cX13_is 185 = .ok (.getfield 108, 3) := by decide +kernel
theorem dX13_is_188 : decode cX13_is 188 = .ok (.iload_n 3, 1) := by decide +kernel
theorem dX13_is_189 : decode cX13_is 189 = .ok (.baload, 1) := by decide +kernel
theorem dX13_is_190 : decode cX13_is 190 = .ok (.ifCond .eq 7, 3) := by decide +kernel
theorem dX13_is_193 : decode cX13_is 193 = .ok (.iconst 1, 1) := by decide +kernel
theorem dX13_is_194 : decode cX13_is 194 = .ok (.goto 18, 3) := by decide +kernel
theorem dX13_is_197 : decode cX13_is 197 = .ok (.aload_n 0, 1) := by decide +kernel
theorem dX13_is_198 : decode cX13_is 198 = .ok (.iload_n 3, 1) := by decide +kernel
theorem dX13_is_199 : decode cX13_is 199 = .ok (.invokevirtual 433, 3) := by decide +kernel
theorem dX13_is_202 : decode cX13_is 202 = .ok (.bipush 6, 2) := by decide +kernel
theorem dX13_is_204 : decode cX13_is 204 = .ok (.if_icmp .ne 7, 3) := by decide +kernel
theorem dX13_is_207 : decode cX13_is 207 = .ok (.iconst 2, 1) := by decide +kernel
theorem dX13_is_208 : decode cX13_is 208 = .ok (.goto 4, 3) := by decide +kernel
theorem dX13_is_211 : decode cX13_is 211 = .ok (.iconst 0, 1) := by decide +kernel
theorem dX13_is_212 : decode cX13_is 212 = .ok (.ireturn, 1) := by decide +kernel
theorem dX13_is_213 : decode cX13_is 213 = .ok (.iload 4, 2) := by decide +kernel
theorem dX13_is_215 : decode cX13_is 215 = .ok (.ifCond .eq 19, 3) := by decide +kernel
theorem dX13_is_218 : decode cX13_is 218 = .ok (.aload_n 0, 1) := by decide +kernel
theorem dX13_is_219 : decode cX13_is 219 = .ok (.iload_n 3, 1) := by decide +kernel
theorem dX13_is_220 : decode cX13_is 220 = .ok (.invokevirtual 485, 3) := by decide +kernel
theorem dX13_is_223 : decode cX13_is 223 = .ok (.ifCond .eq 7, 3) := by decide +kernel
theorem dX13_is_226 : decode cX13_is 226 = .ok (.iconst 1, 1) := by decide +kernel
theorem dX13_is_227 : decode cX13_is 227 = .ok (.goto 8, 3) := by decide +kernel
theorem dX13_is_230 : decode cX13_is 230 = .ok (.iconst 0, 1) := by decide +kernel
theorem dX13_is_231 : decode cX13_is 231 = .ok (.goto 4, 3) := by decide +kernel
theorem dX13_is_234 : decode cX13_is 234 = .ok (.iconst (-1), 1) := by decide +kernel
theorem dX13_is_235 : decode cX13_is 235 = .ok (.ireturn, 1) := by decide +kernel
theorem dX13_is_236 : decode cX13_is 236 = .ok (.aload_n 0, 1) := by decide +kernel
theorem dX13_is_237 : decode cX13_is 237 = .ok (.getfield 114, 3) := by decide +kernel
theorem dX13_is_240 : decode cX13_is 240 = .ok (.iload_n 3, 1) := by decide +kernel
theorem dX13_is_241 : decode cX13_is 241 = .ok (.iaload, 1) := by decide +kernel
theorem dX13_is_242 : decode cX13_is 242 = .ok (.iconst (-1), 1) := by decide +kernel
theorem dX13_is_243 : decode cX13_is 243 = .ok (.if_icmp .eq 7, 3) := by decide +kernel
theorem dX13_is_246 : decode cX13_is 246 = .ok (.iconst 1, 1) := by decide +kernel
theorem dX13_is_247 : decode cX13_is 247 = .ok (.goto 4, 3) := by decide +kernel
theorem dX13_is_250 : decode cX13_is 250 = .ok (.iconst 0, 1) := by decide +kernel
theorem dX13_is_251 : decode cX13_is 251 = .ok (.ireturn, 1) := by decide +kernel
theorem dX13_is_252 : decode cX13_is 252 = .ok (.iconst (-1), 1) := by decide +kernel
theorem dX13_is_253 : decode cX13_is 253 = .ok (.ireturn, 1) := by decide +kernel
set_option maxRecDepth 20000 in
theorem ggX13_count_X13_in : GoodIn wsX13_count wsX13_in := goodIn_r _ [15] (by decide +kernel) (by decide +kernel)
set_option maxRecDepth 20000 in
theorem gX13_count_X13_in : GoodIn wsX13_count (va_wsS RX13 256 yX13_in wsX13_in) := goodIn_app (goodIn_of _ (by decide +kernel)) ggX13_count_X13_in
theorem dX13_count_0 : decode cX13_count 0 = .ok (.iconst 0, 1) := by decide +kernel
theorem dX13_count_1 : decode cX13_count 1 = .ok (.istore_n 2, 1) := by decide +kernel
theorem dX13_count_2 : decode cX13_count 2 = .ok (.iload_n 1, 1) := by decide +kernel
theorem dX13_count_3 : decode cX13_count 3 = .ok (.bipush 10, 2) := by decide +kernel
theorem dX13_count_5 : decode cX13_count 5 = .ok (.bipush 9, 2) := by decide +kernel
theorem dX13_count_7 : decode cX13_count 7 = .ok (.aload_n 0, 1) := by decide +kernel
theorem dX13_count_8 : decode cX13_count 8 = .ok (.getfield 445, 3) := by decide +kernel
theorem dX13_count_11 : decode cX13_count 11 = .ok (.iadd, 1) := by decide +kernel
theorem dX13_count_12 : decode cX13_count 12 = .ok (.invokestatic 256, 3) := by decide +kernel
theorem dX13_count_15 : decode cX13_count 15 = .ok (.ifCond .eq 47, 3) := by decide +kernel
theorem dX13_count_18 : decode cX13_count 18 = .ok (.iconst 0, 1) := by decide +kernel
theorem dX13_count_19 : decode cX13_count 19 = .ok (.istore_n 3, 1) := by decide +kernel
theorem dX13_count_20 : decode cX13_count 20 = .ok (.iload_n 3, 1) := by decide +kernel
theorem dX13_count_21 : decode cX13_count 21 = .ok (.aload_n 0, 1) := by decide +kernel
theorem dX13_count_22 : decode cX13_count 22 = .ok (.getfield 452, 3) := by decide +kernel
theorem dX13_count_25 : decode cX13_count 25 = .ok (.if_icmp .ge 35, 3) := by decide +kernel
theorem dX13_count_28 : decode cX13_count 28 = .ok (.iload_n 2, 1) := by decide +kernel
theorem dX13_count_29 : decode cX13_count 29 = .ok (.aload_n 0, 1) := by decide +kernel
theorem dX13_count_30 : decode cX13_count 30 = .ok (.getfield 138, 3) := by decide +kernel
theorem dX13_count_33 : decode cX13_count 33 = .ok (.iload_n 3, 1) := by decide +kernel
theorem dX13_count_34 : decode cX13_count 34 = .ok (.iaload, 1) := by decide +kernel
theorem dX13_count_35 : decode cX13_count 35 = .ok (.iload_n 1, 1) := by decide +kernel
theorem dX13_count_36 : decode cX13_count 36 = .ok (.bipush 10, 2) := by decide +kernel
theorem dX13_count_38 : decode cX13_count 38 = .ok (.isub, 1) := by decide +kernel
theorem dX13_count_39 : decode cX13_count 39 = .ok (.if_icmp .ne 12, 3) := by decide +kernel
theorem dX13_count_42 : decode cX13_count 42 = .ok (.aload_n 0, 1) := by decide +kernel
theorem dX13_count_43 : decode cX13_count 43 = .ok (.getfield 153, 3) := by decide +kernel
theorem dX13_count_46 : decode cX13_count 46 = .ok (.iload_n 3, 1) := by decide +kernel
theorem dX13_count_47 : decode cX13_count 47 = .ok (.iaload, 1) := by decide +kernel
theorem dX13_count_48 : decode cX13_count 48 = .ok (.goto 4, 3) := by decide +kernel
theorem dX13_count_51 : decode cX13_count 51 = .ok (.iconst 0, 1) := by decide +kernel
theorem dX13_count_52 : decode cX13_count 52 = .ok (.iadd, 1) := by decide +kernel
theorem dX13_count_53 : decode cX13_count 53 = .ok (.istore_n 2, 1) := by decide +kernel
theorem dX13_count_54 : decode cX13_count 54 = .ok (.iinc 3 1, 3) := by decide +kernel
theorem dX13_count_57 : decode cX13_count 57 = .ok (.goto (-37), 3) := by decide +kernel
theorem dX13_count_60 : decode cX13_count 60 = .ok (.iload_n 2, 1) := by decide +kernel
theorem dX13_count_61 : decode cX13_count 61 = .ok (.ireturn, 1) := by decide +kernel
theorem dX13_count_62 : decode cX13_count 62 = .ok (.iload_n 1, 1) := by decide +kernel
theorem dX13_count_63 : decode cX13_count 63 = .ok (.bipush 30, 2) := by decide +kernel
theorem dX13_count_65 : decode cX13_count 65 = .ok (.bipush 29, 2) := by decide +kernel
theorem dX13_count_67 : decode cX13_count 67 = .ok (.aload_n 0, 1) := by decide +kernel
theorem dX13_count_68 : decode cX13_count 68 = .ok (.getfield 445, 3) := by decide +kernel
theorem dX13_count_71 : decode cX13_count 71 = .ok (.iadd, 1) := by decide +kernel
theorem dX13_count_72 : decode cX13_count 72 = .ok (.invokestatic 256, 3) := by decide +kernel
theorem dX13_count_75 : decode cX13_count 75 = .ok (.ifCond .eq 21, 3) := by decide +kernel
theorem dX13_count_78 : decode cX13_count 78 = .ok (.aload_n 0, 1) := by decide +kernel
theorem dX13_count_79 : decode cX13_count 79 = .ok (.getfield 129, 3) := by decide +kernel
theorem dX13_count_82 : decode cX13_count 82 = .ok (.iload_n 1, 1) := by decide +kernel
theorem dX13_count_83 : decode cX13_count 83 = .ok (.bipush 30, 2) := by decide +kernel
theorem dX13_count_85 : decode cX13_count 85 = .ok (.isub, 1) := by decide +kernel
theorem dX13_count_86 : decode cX13_count 86 = .ok (.baload, 1) := by decide +kernel
theorem dX13_count_87 : decode cX13_count 87 = .ok (.ifCond .eq 7, 3) := by decide +kernel
theorem dX13_count_90 : decode cX13_count 90 = .ok (.iconst 0, 1) := by decide +kernel
theorem dX13_count_91 : decode cX13_count 91 = .ok (.goto 4, 3) := by decide +kernel
theorem dX13_count_94 : decode cX13_count 94 = .ok (.iconst 1, 1) := by decide +kernel
theorem dX13_count_95 : decode cX13_count 95 = .ok (.ireturn, 1) := by decide +kernel
theorem dX13_count_96 : decode cX13_count 96 = .ok (.iload_n 1, 1) := by decide +kernel
theorem dX13_count_97 : decode cX13_count 97 = .ok (.tableswitch 148 0 8 #[51, 56, 61, 66, 71, 76, 81, 116, 121], 51) := by decide +kernel
theorem dX13_count_148 : decode cX13_count 148 = .ok (.aload_n 0, 1) := by decide +kernel
theorem dX13_count_149 : decode cX13_count 149 = .ok (.getfield 383, 3) := by decide +kernel
theorem dX13_count_152 : decode cX13_count 152 = .ok (.ireturn, 1) := by decide +kernel
theorem dX13_count_153 : decode cX13_count 153 = .ok (.aload_n 0, 1) := by decide +kernel
theorem dX13_count_154 : decode cX13_count 154 = .ok (.getfield 418, 3) := by decide +kernel
theorem dX13_count_157 : decode cX13_count 157 = .ok (.ireturn, 1) := by decide +kernel
theorem dX13_count_158 : decode cX13_count 158 = .ok (.aload_n 0, 1) := by decide +kernel
theorem dX13_count_159 : decode cX13_count 159 = .ok (.getfield 445, 3) := by decide +kernel
theorem dX13_count_162 : decode cX13_count 162 = .ok (.ireturn, 1) := by decide +kernel
theorem dX13_count_163 : decode cX13_count 163 = .ok (.aload_n 0, 1) := by decide +kernel
theorem dX13_count_164 : decode cX13_count 164 = .ok (.getfield 452, 3) := by decide +kernel
theorem dX13_count_167 : decode cX13_count 167 = .ok (.ireturn, 1) := by decide +kernel
theorem dX13_count_168 : decode cX13_count 168 = .ok (.aload_n 0, 1) := by decide +kernel
theorem dX13_count_169 : decode cX13_count 169 = .ok (.getfield 374, 3) := by decide +kernel
theorem dX13_count_172 : decode cX13_count 172 = .ok (.ireturn, 1) := by decide +kernel
theorem dX13_count_173 : decode cX13_count 173 = .ok (.aload_n 0, 1) := by decide +kernel
theorem dX13_count_174 : decode cX13_count 174 = .ok (.getfield 488, 3) := by decide +kernel
theorem dX13_count_177 : decode cX13_count 177 = .ok (.ireturn, 1) := by decide +kernel
theorem dX13_count_178 : decode cX13_count 178 = .ok (.iconst 0, 1) := by decide +kernel
theorem dX13_count_179 : decode cX13_count 179 = .ok (.istore_n 3, 1) := by decide +kernel
theorem dX13_count_180 : decode cX13_count 180 = .ok (.iload_n 3, 1) := by decide +kernel
theorem dX13_count_181 : decode cX13_count 181 = .ok (.bipush 6, 2) := by decide +kernel
theorem dX13_count_183 : decode cX13_count 183 = .ok (.if_icmp .ge 28, 3) := by decide +kernel
theorem dX13_count_186 : decode cX13_count 186 = .ok (.iload_n 2, 1) := by decide +kernel
theorem dX13_count_187 : decode cX13_count 187 = .ok (.aload_n 0, 1) := by decide +kernel
theorem dX13_count_188 : decode cX13_count 188 = .ok (.getfield 68, 3) := by decide +kernel
theorem dX13_count_191 : decode cX13_count 191 = .ok (.iload_n 3, 1) := by decide +kernel
theorem dX13_count_192 : decode cX13_count 192 = .ok (.baload, 1) := by decide +kernel
theorem dX13_count_193 : decode cX13_count 193 = .ok (.ifCond .eq 9, 3) := by decide +kernel
theorem dX13_count_196 : decode cX13_count 196 = .ok (.iconst 1, 1) := by decide +kernel
theorem dX13_count_197 : decode cX13_count 197 = .ok (.iload_n 3, 1) := by decide +kernel
theorem dX13_count_198 : decode cX13_count 198 = .ok (.ishl, 1) := by decide +kernel
theorem dX13_count_199 : decode cX13_count 199 = .ok (.goto 4, 3) := by decide +kernel
theorem dX13_count_202 : decode cX13_count 202 = .ok (.iconst 0, 1) := by decide +kernel
theorem dX13_count_203 : decode cX13_count 203 = .ok (.ior, 1) := by decide +kernel
theorem dX13_count_204 : decode cX13_count 204 = .ok (.istore_n 2, 1) := by decide +kernel
theorem dX13_count_205 : decode cX13_count 205 = .ok (.iinc 3 1, 3) := by decide +kernel
theorem dX13_count_208 : decode cX13_count 208 = .ok (.goto (-28), 3) := by decide +kernel
theorem dX13_count_211 : decode cX13_count 211 = .ok (.iload_n 2, 1) := by decide +kernel
theorem dX13_count_212 : decode cX13_count 212 = .ok (.ireturn, 1) := by decide +kernel
theorem dX13_count_213 : decode cX13_count 213 = .ok (.aload_n 0, 1) := by decide +kernel
theorem dX13_count_214 : decode cX13_count 214 = .ok (.getfield 252, 3) := by decide +kernel
theorem dX13_count_217 : decode cX13_count 217 = .ok (.ireturn, 1) := by decide +kernel
theorem dX13_count_218 : decode cX13_count 218 = .ok (.iconst 0, 1) := by decide +kernel
theorem dX13_count_219 : decode cX13_count 219 = .ok (.istore_n 3, 1) := by decide +kernel
theorem dX13_count_220 : decode cX13_count 220 = .ok (.iload_n 3, 1) := by decide +kernel
theorem dX13_count_221 : decode cX13_count 221 = .ok (.aload_n 0, 1) := by decide +kernel
theorem dX13_count_222 : decode cX13_count 222 = .ok (.getfield 452, 3) := by decide +kernel
theorem dX13_count_225 : decode cX13_count 225 = .ok (.if_icmp .ge 18, 3) := by decide +kernel
theorem dX13_count_228 : decode cX13_count 228 = .ok (.iload_n 2, 1) := by decide +kernel
theorem dX13_count_229 : decode cX13_count 229 = .ok (.aload_n 0, 1) := by decide +kernel
theorem dX13_count_230 : decode cX13_count 230 = .ok (.getfield 153, 3) := by decide +kernel
theorem dX13_count_233 : decode cX13_count 233 = .ok (.iload_n 3, 1) := by decide +kernel
theorem dX13_count_234 : decode cX13_count 234 = .ok (.iaload, 1) := by decide +kernel
theorem dX13_count_235 : decode cX13_count 235 = .ok (.iadd, 1) := by decide +kernel
theorem dX13_count_236 : decode cX13_count 236 = .ok (.istore_n 2, 1) := by decide +kernel
theorem dX13_count_237 : decode cX13_count 237 = .ok (.iinc 3 1, 3) := by decide +kernel
theorem dX13_count_240 : decode cX13_count 240 = .ok (.goto (-20), 3) := by decide +kernel
theorem dX13_count_243 : decode cX13_count 243 = .ok (.iload_n 2, 1) := by decide +kernel
theorem dX13_count_244 : decode cX13_count 244 = .ok (.ireturn, 1) := by decide +kernel
theorem dX13_count_245 : decode cX13_count 245 = .ok (.iconst (-1), 1) := by decide +kernel
theorem dX13_count_246 : decode cX13_count 246 = .ok (.ireturn, 1) := by decide +kernel
theorem dJ11_isValidCodePoint_9a6ad_0 : decode cJ11_isValidCodePoint_9a6ad 0 = .ok (.iload_n 0, 1) := by decide +kernel
theorem dJ11_isValidCodePoint_9a6ad_1 : decode cJ11_isValidCodePoint_9a6ad 1 = .ok (.bipush 16, 2) := by decide +kernel
theorem dJ11_isValidCodePoint_9a6ad_3 : decode cJ11_isValidCodePoint_9a6ad 3 = .ok (.iushr, 1) := by decide +kernel
theorem dJ11_isValidCodePoint_9a6ad_4 : decode cJ11_isValidCodePoint_9a6ad 4 = .ok (.istore_n 1, 1) := by decide +kernel
theorem dJ11_isValidCodePoint_9a6ad_5 : decode cJ11_isValidCodePoint_9a6ad 5 = .ok (.iload_n 1, 1) := by decide +kernel
theorem dJ11_isValidCodePoint_9a6ad_6 : decode cJ11_isValidCodePoint_9a6ad 6 = .ok (.bipush 17, 2) := by decide +kernel
theorem dJ11_isValidCodePoint_9a6ad_8 : decode cJ11_isValidCodePoint_9a6ad 8 = .ok (.if_icmp .ge 7, 3) := by decide +kernel
theorem dJ11_isValidCodePoint_9a6ad_11 : decode cJ11_isValidCodePoint_9a6ad 11 = .ok (.iconst 1, 1) := by decide +kernel
theorem dJ11_isValidCodePoint_9a6ad_12 : decode cJ11_isValidCodePoint_9a6ad 12 = .ok (.goto 4, 3) := by decide +kernel
theorem dJ11_isValidCodePoint_9a6ad_15 : decode cJ11_isValidCodePoint_9a6ad 15 = .ok (.iconst 0, 1) := by decide +kernel
theorem dJ11_isValidCodePoint_9a6ad_16 : decode cJ11_isValidCodePoint_9a6ad 16 = .ok (.ireturn, 1) := by decide +kernel
theorem dJ11_highSurrogate_5068e_0 : decode cJ11_highSurrogate_5068e 0 = .ok (.iload_n 0, 1) := by decide +kernel
theorem dJ11_highSurrogate_5068e_1 : decode cJ11_highSurrogate_5068e 1 = .ok (.bipush 10, 2) := by decide +kernel
theorem dJ11_highSurrogate_5068e_3 : decode cJ11_highSurrogate_5068e 3 = .ok (.iushr, 1) := by decide +kernel
theorem dJ11_highSurrogate_5068e_4 : decode cJ11_highSurrogate_5068e 4 = .ok (.ldc 110, 2) := by decide +kernel
theorem dJ11_highSurrogate_5068e_6 : decode cJ11_highSurrogate_5068e 6 = .ok (.iadd, 1) := by decide +kernel
theorem dJ11_highSurrogate_5068e_7 : decode cJ11_highSurrogate_5068e 7 = .ok (.i2c, 1) := by decide +kernel
theorem dJ11_highSurrogate_5068e_8 : decode cJ11_highSurrogate_5068e 8 = .ok (.ireturn, 1) := by decide +kernel
theorem dJ11_lowSurrogate_5068e_0 : decode cJ11_lowSurrogate_5068e 0 = .ok (.iload_n 0, 1) := by decide +kernel
theorem dJ11_lowSurrogate_5068e_1 : decode cJ11_lowSurrogate_5068e 1 = .ok (.sipush 1023, 3) := by decide +kernel
theorem dJ11_lowSurrogate_5068e_4 : decode cJ11_lowSurrogate_5068e 4 = .ok (.iand, 1) := by decide +kernel
theorem dJ11_lowSurrogate_5068e_5 : decode cJ11_lowSurrogate_5068e 5 = .ok (.ldc 76, 2) := by decide +kernel
theorem dJ11_lowSurrogate_5068e_7 : decode cJ11_lowSurrogate_5068e 7 = .ok (.iadd, 1) := by decide +kernel
theorem dJ11_lowSurrogate_5068e_8 : decode cJ11_lowSurrogate_5068e 8 = .ok (.i2c, 1) := by decide +kernel
theorem dJ11_lowSurrogate_5068e_9 : decode cJ11_lowSurrogate_5068e 9 = .ok (.ireturn, 1) := by decide +kernel
theorem dJ6_numberOfTrailingZeros_0f7a4_0 : decode cJ6_numberOfTrailingZeros_0f7a4 0 = .ok (.iload_n 0, 1) := by decide +kernel
theorem dJ6_numberOfTrailingZeros_0f7a4_1 : decode cJ6_numberOfTrailingZeros_0f7a4 1 = .ok (.iconst (-1), 1) := by decide +kernel
theorem dJ6_numberOfTrailingZeros_0f7a4_2 : decode cJ6_numberOfTrailingZeros_0f7a4 2 = .ok (.ixor, 1) := by decide +kernel
theorem dJ6_numberOfTrailingZeros_0f7a4_3 : decode cJ6_numberOfTrailingZeros_0f7a4 3 = .ok (.iload_n 0, 1) := by decide +kernel
theorem dJ6_numberOfTrailingZeros_0f7a4_4 : decode cJ6_numberOfTrailingZeros_0f7a4 4 = .ok (.iconst 1, 1) := by decide +kernel
theorem dJ6_numberOfTrailingZeros_0f7a4_5 : decode cJ6_numberOfTrailingZeros_0f7a4 5 = .ok (.isub, 1) := by decide +kernel
theorem dJ6_numberOfTrailingZeros_0f7a4_6 : decode cJ6_numberOfTrailingZeros_0f7a4 6 = .ok (.iand, 1) := by decide +kernel
theorem dJ6_numberOfTrailingZeros_0f7a4_7 : decode cJ6_numberOfTrailingZeros_0f7a4 7 = .ok (.istore_n 0, 1) := by decide +kernel
theorem dJ6_numberOfTrailingZeros_0f7a4_8 : decode cJ6_numberOfTrailingZeros_0f7a4 8 = .ok (.iload_n 0, 1) := by decide +kernel
theorem dJ6_numberOfTrailingZeros_0f7a4_9 : decode cJ6_numberOfTrailingZeros_0f7a4 9 = .ok (.ifCond .gt 8, 3) := by decide +kernel
theorem dJ6_numberOfTrailingZeros_0f7a4_12 : decode cJ6_numberOfTrailingZeros_0f7a4 12 = .ok (.iload_n 0, 1) := by decide +kernel
theorem dJ6_numberOfTrailingZeros_0f7a4_13 : decode cJ6_numberOfTrailingZeros_0f7a4 13 = .ok (.bipush 32, 2) := by decide +kernel
theorem dJ6_numberOfTrailingZeros_0f7a4_15 : decode cJ6_numberOfTrailingZeros_0f7a4 15 = .ok (.iand, 1) := by decide +kernel
theorem dJ6_numberOfTrailingZeros_0f7a4_16 : decode cJ6_numberOfTrailingZeros_0f7a4 16 = .ok (.ireturn, 1) := by decide +kernel
theorem dJ6_numberOfTrailingZeros_0f7a4_17 : decode cJ6_numberOfTrailingZeros_0f7a4 17 = .ok (.iconst 1, 1) := by decide +kernel
theorem dJ6_numberOfTrailingZeros_0f7a4_18 : decode cJ6_numberOfTrailingZeros_0f7a4 18 = .ok (.istore_n 1, 1) := by decide +kernel
theorem dJ6_numberOfTrailingZeros_0f7a4_19 : decode cJ6_numberOfTrailingZeros_0f7a4 19 = .ok (.iload_n 0, 1) := by decide +kernel
theorem dJ6_numberOfTrailingZeros_0f7a4_20 : decode cJ6_numberOfTrailingZeros_0f7a4 20 = .ok (.ldc_w 264, 3) := by decide +kernel
theorem dJ6_numberOfTrailingZeros_0f7a4_23 : decode cJ6_numberOfTrailingZeros_0f7a4 23 = .ok (.if_icmp .le 11, 3) := by decide +kernel
theorem dJ6_numberOfTrailingZeros_0f7a4_26 : decode cJ6_numberOfTrailingZeros_0f7a4 26 = .ok (.iinc 1 16, 3) := by decide +kernel
theorem dJ6_numberOfTrailingZeros_0f7a4_29 : decode cJ6_numberOfTrailingZeros_0f7a4 29 = .ok (.iload_n 0, 1) := by decide +kernel
theorem dJ6_numberOfTrailingZeros_0f7a4_30 : decode cJ6_numberOfTrailingZeros_0f7a4 30 = .ok (.bipush 16, 2) := by decide +kernel
theorem dJ6_numberOfTrailingZeros_0f7a4_32 : decode cJ6_numberOfTrailingZeros_0f7a4 32 = .ok (.iushr, 1) := by decide +kernel
theorem dJ6_numberOfTrailingZeros_0f7a4_33 : decode cJ6_numberOfTrailingZeros_0f7a4 33 = .ok (.istore_n 0, 1) := by decide +kernel
theorem dJ6_numberOfTrailingZeros_0f7a4_34 : decode cJ6_numberOfTrailingZeros_0f7a4 34 = .ok (.iload_n 0, 1) := by decide +kernel
theorem dJ6_numberOfTrailingZeros_0f7a4_35 : decode cJ6_numberOfTrailingZeros_0f7a4 35 = .ok (.sipush 256, 3) := by decide +kernel
theorem dJ6_numberOfTrailingZeros_0f7a4_38 : decode cJ6_numberOfTrailingZeros_0f7a4 38 = .ok (.if_icmp .le 11, 3) := by decide +kernel
theorem dJ6_numberOfTrailingZeros_0f7a4_41 : decode cJ6_numberOfTrailingZeros_0f7a4 41 = .ok (.iinc 1 8, 3) := by decide +kernel
theorem dJ6_numberOfTrailingZeros_0f7a4_44 : decode cJ6_numberOfTrailingZeros_0f7a4 44 = .ok (.iload_n 0, 1) := by decide +kernel
theorem dJ6_numberOfTrailingZeros_0f7a4_45 : decode cJ6_numberOfTrailingZeros_0f7a4 45 = .ok (.bipush 8, 2) := by decide +kernel
theorem dJ6_numberOfTrailingZeros_0f7a4_47 : decode cJ6_numberOfTrailingZeros_0f7a4 47 = .ok (.iushr, 1) := by decide +kernel
theorem dJ6_numberOfTrailingZeros_0f7a4_48 : decode cJ6_numberOfTrailingZeros_0f7a4 48 = .ok (.istore_n 0, 1) := by decide +kernel
theorem dJ6_numberOfTrailingZeros_0f7a4_49 : decode cJ6_numberOfTrailingZeros_0f7a4 49 = .ok (.iload_n 0, 1) := by decide +kernel
theorem dJ6_numberOfTrailingZeros_0f7a4_50 : decode cJ6_numberOfTrailingZeros_0f7a4 50 = .ok (.bipush 16, 2) := by decide +kernel
theorem dJ6_numberOfTrailingZeros_0f7a4_52 : decode cJ6_numberOfTrailingZeros_0f7a4 52 = .ok (.if_icmp .le 10, 3) := by decide +kernel
theorem dJ6_numberOfTrailingZeros_0f7a4_55 : decode cJ6_numberOfTrailingZeros_0f7a4 55 = .ok (.iinc 1 4, 3) := by decide +kernel
theorem dJ6_numberOfTrailingZeros_0f7a4_58 : decode cJ6_numberOfTrailingZeros_0f7a4 58 = .ok (.iload_n 0, 1) := by decide +kernel
theorem dJ6_numberOfTrailingZeros_0f7a4_59 : decode cJ6_numberOfTrailingZeros_0f7a4 59 = .ok (.iconst 4, 1) := by decide +kernel
theorem dJ6_numberOfTrailingZeros_0f7a4_60 : decode cJ6_numberOfTrailingZeros_0f7a4 60 = .ok (.iushr, 1) := by decide +kernel
theorem dJ6_numberOfTrailingZeros_0f7a4_61 : decode cJ6_numberOfTrailingZeros_0f7a4 61 = .ok (.istore_n 0, 1) := by decide +kernel
theorem dJ6_numberOfTrailingZeros_0f7a4_62 : decode cJ6_numberOfTrailingZeros_0f7a4 62 = .ok (.iload_n 0, 1) := by decide +kernel
theorem dJ6_numberOfTrailingZeros_0f7a4_63 : decode cJ6_numberOfTrailingZeros_0f7a4 63 = .ok (.iconst 4, 1) := by decide +kernel
theorem dJ6_numberOfTrailingZeros_0f7a4_64 : decode cJ6_numberOfTrailingZeros_0f7a4 64 = .ok (.if_icmp .le 10, 3) := by decide +kernel
theorem dJ6_numberOfTrailingZeros_0f7a4_67 : decode cJ6_numberOfTrailingZeros_0f7a4 67 = .ok (.iinc 1 2, 3) := by decide +kernel
theorem dJ6_numberOfTrailingZeros_0f7a4_70 : decode cJ6_numberOfTrailingZeros_0f7a4 70 = .ok (.iload_n 0, 1) := by decide +kernel
theorem dJ6_numberOfTrailingZeros_0f7a4_71 : decode cJ6_numberOfTrailingZeros_0f7a4 71 = .ok (.iconst 2, 1) := by decide +kernel
theorem dJ6_numberOfTrailingZeros_0f7a4_72 : decode cJ6_numberOfTrailingZeros_0f7a4 72 = .ok (.iushr, 1) := by decide +kernel
theorem dJ6_numberOfTrailingZeros_0f7a4_73 : decode cJ6_numberOfTrailingZeros_0f7a4 73 = .ok (.istore_n 0, 1) := by decide +kernel
theorem dJ6_numberOfTrailingZeros_0f7a4_74 : decode cJ6_numberOfTrailingZeros_0f7a4 74 = .ok (.iload_n 1, 1) := by decide +kernel
theorem dJ6_numberOfTrailingZeros_0f7a4_75 : decode cJ6_numberOfTrailingZeros_0f7a4 75 = .ok (.iload_n 0, 1) := by decide +kernel
theorem dJ6_numberOfTrailingZeros_0f7a4_76 : decode cJ6_numberOfTrailingZeros_0f7a4 76 = .ok (.iconst 1, 1) := by decide +kernel
theorem dJ6_numberOfTrailingZeros_0f7a4_77 : decode cJ6_numberOfTrailingZeros_0f7a4 77 = .ok (.iushr, 1) := by decide +kernel
theorem dJ6_numberOfTrailingZeros_0f7a4_78 : decode cJ6_numberOfTrailingZeros_0f7a4 78 = .ok (.iadd, 1) := by decide +kernel
theorem dJ6_numberOfTrailingZeros_0f7a4_79 : decode cJ6_numberOfTrailingZeros_0f7a4 79 = .ok (.ireturn, 1) := by decide +kernel
theorem dJ6_bitCount_0f7a4_0 : decode cJ6_bitCount_0f7a4 0 = .ok (.iload_n 0, 1) := by decide +kernel
theorem dJ6_bitCount_0f7a4_1 : decode cJ6_bitCount_0f7a4 1 = .ok (.iload_n 0, 1) := by decide +kernel
theorem dJ6_bitCount_0f7a4_2 : decode cJ6_bitCount_0f7a4 2 = .ok (.iconst 1, 1) := by decide +kernel
theorem dJ6_bitCount_0f7a4_3 : decode cJ6_bitCount_0f7a4 3 = .ok (.iushr, 1) := by decide +kernel
theorem dJ6_bitCount_0f7a4_4 : decode cJ6_bitCount_0f7a4 4 = .ok (.ldc_w 265, 3) := by decide +kernel
theorem dJ6_bitCount_0f7a4_7 : decode cJ6_bitCount_0f7a4 7 = .ok (.iand, 1) := by decide +kernel
theorem dJ6_bitCount_0f7a4_8 : decode cJ6_bitCount_0f7a4 8 = .ok (.isub, 1) := by decide +kernel
theorem dJ6_bitCount_0f7a4_9 : decode cJ6_bitCount_0f7a4 9 = .ok (.istore_n 0, 1) := by decide +kernel
theorem dJ6_bitCount_0f7a4_10 : decode cJ6_bitCount_0f7a4 10 = .ok (.iload_n 0, 1) := by decide +kernel
theorem dJ6_bitCount_0f7a4_11 : decode cJ6_bitCount_0f7a4 11 = .ok (.ldc_w 266, 3) := by decide +kernel
theorem dJ6_bitCount_0f7a4_14 : decode cJ6_bitCount_0f7a4 14 = .ok (.iand, 1) := by decide +kernel
theorem dJ6_bitCount_0f7a4_15 : decode cJ6_bitCount_0f7a4 15 = .ok (.iload_n 0, 1) := by decide +kernel
theorem dJ6_bitCount_0f7a4_16 : decode cJ6_bitCount_0f7a4 16 = .ok (.iconst 2, 1) := by decide +kernel
theorem dJ6_bitCount_0f7a4_17 : decode cJ6_bitCount_0f7a4 17 = .ok (.iushr, 1) := by decide +kernel
theorem dJ6_bitCount_0f7a4_18 : decode cJ6_bitCount_0f7a4 18 = .ok (.ldc_w 266, 3) := by decide +kernel
theorem dJ6_bitCount_0f7a4_21 : decode cJ6_bitCount_0f7a4 21 = .ok (.iand, 1) := by decide +kernel
theorem dJ6_bitCount_0f7a4_22 : decode cJ6_bitCount_0f7a4 22 = .ok (.iadd, 1) := by decide +kernel
theorem dJ6_bitCount_0f7a4_23 : decode cJ6_bitCount_0f7a4 23 = .ok (.istore_n 0, 1) := by decide +kernel
theorem dJ6_bitCount_0f7a4_24 : decode cJ6_bitCount_0f7a4 24 = .ok (.iload_n 0, 1) := by decide +kernel
theorem dJ6_bitCount_0f7a4_25 : decode cJ6_bitCount_0f7a4 25 = .ok (.iload_n 0, 1) := by decide +kernel
theorem dJ6_bitCount_0f7a4_26 : decode cJ6_bitCount_0f7a4 26 = .ok (.iconst 4, 1) := by decide +kernel
theorem dJ6_bitCount_0f7a4_27 : decode cJ6_bitCount_0f7a4 27 = .ok (.iushr, 1) := by decide +kernel
theorem dJ6_bitCount_0f7a4_28 : decode cJ6_bitCount_0f7a4 28 = .ok (.iadd, 1) := by decide +kernel
theorem dJ6_bitCount_0f7a4_29 : decode cJ6_bitCount_0f7a4 29 = .ok (.ldc_w 267, 3) := by decide +kernel
theorem dJ6_bitCount_0f7a4_32 : decode cJ6_bitCount_0f7a4 32 = .ok (.iand, 1) := by decide +kernel
theorem dJ6_bitCount_0f7a4_33 : decode cJ6_bitCount_0f7a4 33 = .ok (.istore_n 0, 1) := by decide +kernel
theorem dJ6_bitCount_0f7a4_34 : decode cJ6_bitCount_0f7a4 34 = .ok (.iload_n 0, 1) := by decide +kernel
theorem dJ6_bitCount_0f7a4_35 : decode cJ6_bitCount_0f7a4 35 = .ok (.iload_n 0, 1) := by decide +kernel
theorem dJ6_bitCount_0f7a4_36 : decode cJ6_bitCount_0f7a4 36 = .ok (.bipush 8, 2) := by decide +kernel
theorem dJ6_bitCount_0f7a4_38 : decode cJ6_bitCount_0f7a4 38 = .ok (.iushr, 1) := by decide +kernel
theorem dJ6_bitCount_0f7a4_39 : decode cJ6_bitCount_0f7a4 39 = .ok (.iadd, 1) := by decide +kernel
theorem dJ6_bitCount_0f7a4_40 : decode cJ6_bitCount_0f7a4 40 = .ok (.istore_n 0, 1) := by decide +kernel
theorem dJ6_bitCount_0f7a4_41 : decode cJ6_bitCount_0f7a4 41 = .ok (.iload_n 0, 1) := by decide +kernel
theorem dJ6_bitCount_0f7a4_42 : decode cJ6_bitCount_0f7a4 42 = .ok (.iload_n 0, 1) := by decide +kernel
theorem dJ6_bitCount_0f7a4_43 : decode cJ6_bitCount_0f7a4 43 = .ok (.bipush 16, 2) := by decide +kernel
theorem dJ6_bitCount_0f7a4_45 : decode cJ6_bitCount_0f7a4 45 = .ok (.iushr, 1) := by decide +kernel
theorem dJ6_bitCount_0f7a4_46 : decode cJ6_bitCount_0f7a4 46 = .ok (.iadd, 1) := by decide +kernel
theorem dJ6_bitCount_0f7a4_47 : decode cJ6_bitCount_0f7a4 47 = .ok (.istore_n 0, 1) := by decide +kernel
theorem dJ6_bitCount_0f7a4_48 : decode cJ6_bitCount_0f7a4 48 = .ok (.iload_n 0, 1) := by decide +kernel
theorem dJ6_bitCount_0f7a4_49 : decode cJ6_bitCount_0f7a4 49 = .ok (.bipush 63, 2) := by decide +kernel
theorem dJ6_bitCount_0f7a4_51 : decode cJ6_bitCount_0f7a4 51 = .ok (.iand, 1) := by decide +kernel
theorem dJ6_bitCount_0f7a4_52 : decode cJ6_bitCount_0f7a4 52 = .ok (.ireturn, 1) := by decide +kernel
theorem dJ13_bitCount_95d88_0 : decode cJ13_bitCount_95d88 0 = .ok (.lload_n 0, 1) := by decide +kernel
theorem dJ13_bitCount_95d88_1 : decode cJ13_bitCount_95d88 1 = .ok (.lload_n 0, 1) := by decide +kernel
theorem dJ13_bitCount_95d88_2 : decode cJ13_bitCount_95d88 2 = .ok (.iconst 1, 1) := by decide +kernel
theorem dJ13_bitCount_95d88_3 : decode cJ13_bitCount_95d88 3 = .ok (.lushr, 1) := by decide +kernel
theorem dJ13_bitCount_95d88_4 : decode cJ13_bitCount_95d88 4 = .ok (.ldc2_w 314, 3) := by decide +kernel
theorem dJ13_bitCount_95d88_7 : decode cJ13_bitCount_95d88 7 = .ok (.land, 1) := by decide +kernel
theorem dJ13_bitCount_95d88_8 : decode cJ13_bitCount_95d88 8 = .ok (.lsub, 1) := by decide +kernel
theorem dJ13_bitCount_95d88_9 : decode cJ13_bitCount_95d88 9 = .ok (.lstore_n 0, 1) := by decide +kernel
theorem dJ13_bitCount_95d88_10 : decode cJ13_bitCount_95d88 10 = .ok (.lload_n 0, 1) := by decide +kernel
theorem dJ13_bitCount_95d88_11 : decode cJ13_bitCount_95d88 11 = .ok (.ldc2_w 316, 3) := by decide +kernel
theorem dJ13_bitCount_95d88_14 : decode cJ13_bitCount_95d88 14 = .ok (.land, 1) := by decide +kernel
theorem dJ13_bitCount_95d88_15 : decode cJ13_bitCount_95d88 15 = .ok (.lload_n 0, 1) := by decide +kernel
theorem dJ13_bitCount_95d88_16 : decode cJ13_bitCount_95d88 16 = .ok (.iconst 2, 1) := by decide +kernel
theorem dJ13_bitCount_95d88_17 : decode cJ13_bitCount_95d88 17 = .ok (.lushr, 1) := by decide +kernel
theorem dJ13_bitCount_95d88_18 : decode cJ13_bitCount_95d88 18 = .ok (.ldc2_w 316, 3) := by decide +kernel
theorem dJ13_bitCount_95d88_21 : decode cJ13_bitCount_95d88 21 = .ok (.land, 1) := by decide +kernel
theorem dJ13_bitCount_95d88_22 : decode cJ13_bitCount_95d88 22 = .ok (.ladd, 1) := by decide +kernel
theorem dJ13_bitCount_95d88_23 : decode cJ13_bitCount_95d88 23 = .ok (.lstore_n 0, 1) := by decide +kernel
theorem dJ13_bitCount_95d88_24 : decode cJ13_bitCount_95d88 24 = .ok (.lload_n 0, 1) := by decide +kernel
theorem dJ13_bitCount_95d88_25 : decode cJ13_bitCount_95d88 25 = .ok (.lload_n 0, 1) := by decide +kernel
theorem dJ13_bitCount_95d88_26 : decode cJ13_bitCount_95d88 26 = .ok (.iconst 4, 1) := by decide +kernel
theorem dJ13_bitCount_95d88_27 : decode cJ13_bitCount_95d88 27 = .ok (.lushr, 1) := by decide +kernel
theorem dJ13_bitCount_95d88_28 : decode cJ13_bitCount_95d88 28 = .ok (.ladd, 1) := by decide +kernel
theorem dJ13_bitCount_95d88_29 : decode cJ13_bitCount_95d88 29 = .ok (.ldc2_w 318, 3) := by decide +kernel
theorem dJ13_bitCount_95d88_32 : decode cJ13_bitCount_95d88 32 = .ok (.land, 1) := by decide +kernel
theorem dJ13_bitCount_95d88_33 : decode cJ13_bitCount_95d88 33 = .ok (.lstore_n 0, 1) := by decide +kernel
theorem dJ13_bitCount_95d88_34 : decode cJ13_bitCount_95d88 34 = .ok (.lload_n 0, 1) := by decide +kernel
theorem dJ13_bitCount_95d88_35 : decode cJ13_bitCount_95d88 35 = .ok (.lload_n 0, 1) := by decide +kernel
theorem dJ13_bitCount_95d88_36 : decode cJ13_bitCount_95d88 36 = .ok (.bipush 8, 2) := by decide +kernel
theorem dJ13_bitCount_95d88_38 : decode cJ13_bitCount_95d88 38 = .ok (.lushr, 1) := by decide +kernel
theorem dJ13_bitCount_95d88_39 : decode cJ13_bitCount_95d88 39 = .ok (.ladd, 1) := by decide +kernel
theorem dJ13_bitCount_95d88_40 : decode cJ13_bitCount_95d88 40 = .ok (.lstore_n 0, 1) := by decide +kernel
theorem dJ13_bitCount_95d88_41 : decode cJ13_bitCount_95d88 41 = .ok (.lload_n 0, 1) := by decide +kernel
theorem dJ13_bitCount_95d88_42 : decode cJ13_bitCount_95d88 42 = .ok (.lload_n 0, 1) := by decide +kernel
theorem dJ13_bitCount_95d88_43 : decode cJ13_bitCount_95d88 43 = .ok (.bipush 16, 2) := by decide +kernel
theorem dJ13_bitCount_95d88_45 : decode cJ13_bitCount_95d88 45 = .ok (.lushr, 1) := by decide +kernel
theorem dJ13_bitCount_95d88_46 : decode cJ13_bitCount_95d88 46 = .ok (.ladd, 1) := by decide +kernel
theorem dJ13_bitCount_95d88_47 : decode cJ13_bitCount_95d88 47 = .ok (.lstore_n 0, 1) := by decide +kernel
theorem dJ13_bitCount_95d88_48 : decode cJ13_bitCount_95d88 48 = .ok (.lload_n 0, 1) := by decide +kernel
theorem dJ13_bitCount_95d88_49 : decode cJ13_bitCount_95d88 49 = .ok (.lload_n 0, 1) := by decide +kernel
theorem dJ13_bitCount_95d88_50 : decode cJ13_bitCount_95d88 50 = .ok (.bipush 32, 2) := by decide +kernel
theorem dJ13_bitCount_95d88_52 : decode cJ13_bitCount_95d88 52 = .ok (.lushr, 1) := by decide +kernel
theorem dJ13_bitCount_95d88_53 : decode cJ13_bitCount_95d88 53 = .ok (.ladd, 1) := by decide +kernel
theorem dJ13_bitCount_95d88_54 : decode cJ13_bitCount_95d88 54 = .ok (.lstore_n 0, 1) := by decide +kernel
theorem dJ13_bitCount_95d88_55 : decode cJ13_bitCount_95d88 55 = .ok (.lload_n 0, 1) := by decide +kernel
theorem dJ13_bitCount_95d88_56 : decode cJ13_bitCount_95d88 56 = .ok (.l2i, 1) := by decide +kernel
theorem dJ13_bitCount_95d88_57 : decode cJ13_bitCount_95d88 57 = .ok (.bipush 127, 2) := by decide +kernel
theorem dJ13_bitCount_95d88_59 : decode cJ13_bitCount_95d88 59 = .ok (.iand, 1) := by decide +kernel
theorem dJ13_bitCount_95d88_60 : decode cJ13_bitCount_95d88 60 = .ok (.ireturn, 1) := by decide +kernel
theorem dJ9_abs_0f7a4_0 : decode cJ9_abs_0f7a4 0 = .ok (.iload_n 0, 1) := by decide +kernel
theorem dJ9_abs_0f7a4_1 : decode cJ9_abs_0f7a4 1 = .ok (.ifCond .ge 8, 3) := by decide +kernel
theorem dJ9_abs_0f7a4_4 : decode cJ9_abs_0f7a4 4 = .ok (.iload_n 0, 1) := by decide +kernel
theorem dJ9_abs_0f7a4_5 : decode cJ9_abs_0f7a4 5 = .ok (.ineg, 1) := by decide +kernel
theorem dJ9_abs_0f7a4_6 : decode cJ9_abs_0f7a4 6 = .ok (.goto 4, 3) := by decide +kernel
theorem dJ9_abs_0f7a4_9 : decode cJ9_abs_0f7a4 9 = .ok (.iload_n 0, 1) := by decide +kernel
theorem dJ9_abs_0f7a4_10 : decode cJ9_abs_0f7a4 10 = .ok (.ireturn, 1) := by decide +kernel
theorem dJ9_max_7cf53_0 : decode cJ9_max_7cf53 0 = .ok (.iload_n 0, 1) := by decide +kernel
theorem dJ9_max_7cf53_1 : decode cJ9_max_7cf53 1 = .ok (.iload_n 1, 1) := by decide +kernel
theorem dJ9_max_7cf53_2 : decode cJ9_max_7cf53 2 = .ok (.if_icmp .lt 7, 3) := by decide +kernel
theorem dJ9_max_7cf53_5 : decode cJ9_max_7cf53 5 = .ok (.iload_n 0, 1) := by decide +kernel
theorem dJ9_max_7cf53_6 : decode cJ9_max_7cf53 6 = .ok (.goto 4, 3) := by decide +kernel
theorem dJ9_max_7cf53_9 : decode cJ9_max_7cf53 9 = .ok (.iload_n 1, 1) := by decide +kernel
theorem dJ9_max_7cf53_10 : decode cJ9_max_7cf53 10 = .ok (.ireturn, 1) := by decide +kernel
theorem dJ9_max_f86c9_0 : decode cJ9_max_f86c9 0 = .ok (.lload_n 0, 1) := by decide +kernel
theorem dJ9_max_f86c9_1 : decode cJ9_max_f86c9 1 = .ok (.lload_n 2, 1) := by decide +kernel
theorem dJ9_max_f86c9_2 : decode cJ9_max_f86c9 2 = .ok (.lcmp, 1) := by decide +kernel
theorem dJ9_max_f86c9_3 : decode cJ9_max_f86c9 3 = .ok (.ifCond .lt 7, 3) := by decide +kernel
theorem dJ9_max_f86c9_6 : decode cJ9_max_f86c9 6 = .ok (.lload_n 0, 1) := by decide +kernel
theorem dJ9_max_f86c9_7 : decode cJ9_max_f86c9 7 = .ok (.goto 4, 3) := by decide +kernel
theorem dJ9_max_f86c9_10 : decode cJ9_max_f86c9 10 = .ok (.lload_n 2, 1) := by decide +kernel
theorem dJ9_max_f86c9_11 : decode cJ9_max_f86c9 11 = .ok (.lreturn, 1) := by decide +kernel
theorem dJ9_min_7cf53_0 : decode cJ9_min_7cf53 0 = .ok (.iload_n 0, 1) := by decide +kernel
theorem dJ9_min_7cf53_1 : decode cJ9_min_7cf53 1 = .ok (.iload_n 1, 1) := by decide +kernel
theorem dJ9_min_7cf53_2 : decode cJ9_min_7cf53 2 = .ok (.if_icmp .gt 7, 3) := by decide +kernel
theorem dJ9_min_7cf53_5 : decode cJ9_min_7cf53 5 = .ok (.iload_n 0, 1) := by decide +kernel
theorem dJ9_min_7cf53_6 : decode cJ9_min_7cf53 6 = .ok (.goto 4, 3) := by decide +kernel
theorem dJ9_min_7cf53_9 : decode cJ9_min_7cf53 9 = .ok (.iload_n 1, 1) := by decide +kernel
theorem dJ9_min_7cf53_10 : decode cJ9_min_7cf53 10 = .ok (.ireturn, 1) := by decide +kernel
theorem dJ9_min_f86c9_0 : decode cJ9_min_f86c9 0 = .ok (.lload_n 0, 1) := by decide +kernel
theorem dJ9_min_f86c9_1 : decode cJ9_min_f86c9 1 = .ok (.lload_n 2, 1) := by decide +kernel
theorem dJ9_min_f86c9_2 : decode cJ9_min_f86c9 2 = .ok (.lcmp, 1) := by decide +kernel
theorem dJ9_min_f86c9_3 : decode cJ9_min_f86c9 3 = .ok (.ifCond .gt 7, 3) := by decide +kernel
theorem dJ9_min_f86c9_6 : decode cJ9_min_f86c9 6 = .ok (.lload_n 0, 1) := by decide +kernel
theorem dJ9_min_f86c9_7 : decode cJ9_min_f86c9 7 = .ok (.goto 4, 3) := by decide +kernel
theorem dJ9_min_f86c9_10 : decode cJ9_min_f86c9 10 = .ok (.lload_n 2, 1) := by decide +kernel
theorem dJ9_min_f86c9_11 : decode cJ9_min_f86c9 11 = .ok (.lreturn, 1) := by decide +kernel
set_option maxRecDepth 20000 in
theorem ggJ0_length_8abf5_J0_coder_7d493 : GoodIn wsJ0_length_8abf5 wsJ0_coder_7d493 := goodIn_r _ [6, 7, 8] (by decide +kernel) (by decide +kernel)
set_option maxRecDepth 20000 in
theorem gJ0_length_8abf5_J0_coder_7d493 : GoodIn wsJ0_length_8abf5 (wsV RJ0 335 RJ0 yJ0_coder_7d493 wsJ0_coder_7d493) := goodIn_app (goodIn_of _ (by decide +kernel)) ggJ0_length_8abf5_J0_coder_7d493
theorem dJ0_length_8abf5_0 : decode cJ0_length_8abf5 0 = .ok (.aload_n 0, 1) := by decide +kernel
theorem dJ0_length_8abf5_1 : decode cJ0_length_8abf5 1 = .ok (.getfield 9, 3) := by decide +kernel
theorem dJ0_length_8abf5_4 : decode cJ0_length_8abf5 4 = .ok (.arraylength, 1) := by decide +kernel
theorem dJ0_length_8abf5_5 : decode cJ0_length_8abf5 5 = .ok (.aload_n 0, 1) := by decide +kernel
theorem dJ0_length_8abf5_6 : decode cJ0_length_8abf5 6 = .ok (.invokevirtual 335, 3) := by decide +kernel
theorem dJ0_length_8abf5_9 : decode cJ0_length_8abf5 9 = .ok (.ishr, 1) := by decide +kernel
theorem dJ0_length_8abf5_10 : decode cJ0_length_8abf5 10 = .ok (.ireturn, 1) := by decide +kernel
set_option maxRecDepth 20000 in
theorem ggJ0_charAt_5068e_J0_isLatin1_aae02 : GoodIn wsJ0_charAt_5068e wsJ0_isLatin1_aae02 := goodIn_r _ [6, 7, 8] (by decide +kernel) (by decide +kernel)
set_option maxRecDepth 20000 in
theorem gJ0_charAt_5068e_J0_isLatin1_aae02 : GoodIn wsJ0_charAt_5068e (wsV RJ0 492 RJ0 yJ0_isLatin1_aae02 wsJ0_isLatin1_aae02) := goodIn_app (goodIn_of _ (by decide +kernel)) ggJ0_charAt_5068e_J0_isLatin1_aae02
set_option maxRecDepth 20000 in
theorem ggJ0_charAt_5068e_J1_charAt_3b067 : GoodIn wsJ0_charAt_5068e wsJ1_charAt_3b067 := goodIn_r _ [12, 13, 14, 5, 15, 16, 17, 18, 19, 20] (by decide +kernel) (by decide +kernel)
set_option maxRecDepth 20000 in
theorem gJ0_charAt_5068e_J1_charAt_3b067 : GoodIn wsJ0_charAt_5068e (va_wsS RJ0 495 yJ1_charAt_3b067 wsJ1_charAt_3b067) := goodIn_app (goodIn_of _ (by decide +kernel)) ggJ0_charAt_5068e_J1_charAt_3b067
set_option maxRecDepth 20000 in
theorem ggJ0_charAt_5068e_J2_charAt_3b067 : GoodIn wsJ0_charAt_5068e wsJ2_charAt_3b067 := goodIn_r _ [24, 25, 26, 23, 27, 28, 29, 30, 31, 14, 5, 15, 16, 17, 18, 19, 20, 32, 33, 34, 35, 36, 37] (by decide +kernel) (by decide +kernel)
set_option maxRecDepth 20000 in
theorem gJ0_charAt_5068e_J2_charAt_3b067 : GoodIn wsJ0_charAt_5068e (va_wsS RJ0 498 yJ2_charAt_3b067 wsJ2_charAt_3b067) := goodIn_app (goodIn_of _ (by decide +kernel)) ggJ0_charAt_5068e_J2_charAt_3b067
theorem dJ0_charAt_5068e_0 : decode cJ0_charAt_5068e 0 = .ok (.aload_n 0, 1) := by decide +kernel
theorem dJ0_charAt_5068e_1 : decode cJ0_charAt_5068e 1 = .ok (.invokevirtual 492, 3) := by decide +kernel
theorem dJ0_charAt_5068e_4 : decode cJ0_charAt_5068e 4 = .ok (.ifCond .eq 12, 3) := by decide +kernel
theorem dJ0_charAt_5068e_7 : decode cJ0_charAt_5068e 7 = .ok (.aload_n 0, 1) := by decide +kernel
theorem dJ0_charAt_5068e_8 : decode cJ0_charAt_5068e 8 = .ok (.getfield 9, 3) := by decide +kernel
theorem dJ0_charAt_5068e_11 : decode cJ0_charAt_5068e 11 = .ok (.iload_n 1, 1) := by decide +kernel
theorem dJ0_charAt_5068e_12 : decode cJ0_charAt_5068e 12 = .ok (.invokestatic 495, 3) := by decide +kernel
theorem dJ0_charAt_5068e_15 : decode cJ0_charAt_5068e 15 = .ok (.ireturn, 1) := by decide +kernel
theorem dJ0_charAt_5068e_16 : decode cJ0_charAt_5068e 16 = .ok (.aload_n 0, 1) := by decide +kernel
theorem dJ0_charAt_5068e_17 : decode cJ0_charAt_5068e 17 = .ok (.getfield 9, 3) := by decide +kernel
theorem dJ0_charAt_5068e_20 : decode cJ0_charAt_5068e 20 = .ok (.iload_n 1, 1) := by decide +kernel
theorem dJ0_charAt_5068e_21 : decode cJ0_charAt_5068e 21 = .ok (.invokestatic 498, 3) := by decide +kernel
theorem dJ0_charAt_5068e_24 : decode cJ0_charAt_5068e 24 = .ok (.ireturn, 1) := by decide +kernel
set_option maxRecDepth 20000 in
theorem ggJ0_indexOf_0f7a4_J0_indexOf_7cf53 : GoodIn wsJ0_indexOf_0f7a4 wsJ0_indexOf_7cf53 := goodIn_r _ [5, 6, 7, 8, 9, 4, 10, 11, 12, 13, 14, 15, 16, 17, 18, 19, 20, 21, 22, 23, 24, 25, 26, 27, 28, 29, 30, 31, 32, 33, 34, 35, 36, 37, 38, 39, 40, 41, 42, 43, 44, 45, 46, 47, 48, 49, 50, 51, 52, 53, 54, 55, 56, 57, 58, 59, 60, 61, 62, 63, 64, 65, 66, 67, 68, 69, 70, 71, 72, 73, 74, 75, 76, 77, 78, 79, 80, 81, 82, 83, 84, 85] (by decide +kernel) (by decide +kernel)
set_option maxRecDepth 20000 in
theorem gJ0_indexOf_0f7a4_J0_indexOf_7cf53 : GoodIn wsJ0_indexOf_0f7a4 (wsV RJ0 633 RJ0 yJ0_indexOf_7cf53 wsJ0_indexOf_7cf53) := goodIn_app (goodIn_of _ (by decide +kernel)) ggJ0_indexOf_0f7a4_J0_indexOf_7cf53
theorem dJ0_indexOf_0f7a4_0 : decode cJ0_indexOf_0f7a4 0 = .ok (.aload_n 0, 1) := by decide +kernel
theorem dJ0_indexOf_0f7a4_1 : decode cJ0_indexOf_0f7a4 1 = .ok (.iload_n 1, 1) := by decide +kernel
theorem dJ0_indexOf_0f7a4_2 : decode cJ0_indexOf_0f7a4 2 = .ok (.iconst 0, 1) := by decide +kernel
theorem dJ0_indexOf_0f7a4_3 : decode cJ0_indexOf_0f7a4 3 = .ok (.invokevirtual 633, 3) := by decide +kernel
theorem dJ0_indexOf_0f7a4_6 : decode cJ0_indexOf_0f7a4 6 = .ok (.ireturn, 1) := by decide +kernel
set_option maxRecDepth 20000 in
theorem ggJ0_indexOf_7cf53_J0_isLatin1_aae02 : GoodIn wsJ0_indexOf_7cf53 wsJ0_isLatin1_aae02 := goodIn_r _ [6, 7, 8] (by decide +kernel) (by decide +kernel)
set_option maxRecDepth 20000 in
theorem gJ0_indexOf_7cf53_J0_isLatin1_aae02 : GoodIn wsJ0_indexOf_7cf53 (wsV RJ0 492 RJ0 yJ0_isLatin1_aae02 wsJ0_isLatin1_aae02) := goodIn_app (goodIn_of _ (by decide +kernel)) ggJ0_indexOf_7cf53_J0_isLatin1_aae02
set_option maxRecDepth 20000 in
theorem ggJ0_indexOf_7cf53_J0_length_8abf5 : GoodIn wsJ0_indexOf_7cf53 wsJ0_length_8abf5 := goodIn_r _ [12, 1, 13, 14, 15, 5, 16, 7, 8] (by decide +kernel) (by decide +kernel)
set_option maxRecDepth 20000 in
theorem gJ0_indexOf_7cf53_J0_length_8abf5 : GoodIn wsJ0_indexOf_7cf53 (wsV RJ0 505 RJ0 yJ0_length_8abf5 wsJ0_length_8abf5) := goodIn_app (goodIn_of _ (by decide +kernel)) ggJ0_indexOf_7cf53_J0_length_8abf5
set_option maxRecDepth 20000 in
theorem ggJ0_indexOf_7cf53_J1_indexOf_4cfef : GoodIn wsJ0_indexOf_7cf53 wsJ1_indexOf_4cfef := goodIn_r _ [20, 21, 22, 23, 24, 25, 26, 27, 28, 29, 19, 30, 31, 32, 33] (by decide +kernel) (by decide +kernel)
set_option maxRecDepth 20000 in
theorem gJ0_indexOf_7cf53_J1_indexOf_4cfef : GoodIn wsJ0_indexOf_7cf53 (va_wsS RJ0 637 yJ1_indexOf_4cfef wsJ1_indexOf_4cfef) := goodIn_app (goodIn_of _ (by decide +kernel)) ggJ0_indexOf_7cf53_J1_indexOf_4cfef
set_option maxRecDepth 20000 in
theorem ggJ0_indexOf_7cf53_J2_indexOf_4cfef : GoodIn wsJ0_indexOf_7cf53 wsJ2_indexOf_4cfef := goodIn_r _ [37, 38, 22, 23, 24, 39, 26, 27, 40, 41, 42, 36, 43, 44, 45, 46, 47, 48, 49, 50, 51, 5, 52, 53, 54, 55, 56, 57, 58, 59, 60, 61, 62, 63, 64, 65, 66, 67, 68, 69, 70, 71, 72, 73, 74, 75, 76, 77, 78, 79, 80, 81] (by decide +kernel) (by decide +kernel)
set_option maxRecDepth 20000 in
theorem gJ0_indexOf_7cf53_J2_indexOf_4cfef : GoodIn wsJ0_indexOf_7cf53 (va_wsS RJ0 640 yJ2_indexOf_4cfef wsJ2_indexOf_4cfef) := goodIn_app (goodIn_of _ (by decide +kernel)) ggJ0_indexOf_7cf53_J2_indexOf_4cfef
theorem dJ0_indexOf_7cf53_0 : decode cJ0_indexOf_7cf53 0 = .ok (.aload_n 0, 1) := by decide +kernel
theorem dJ0_indexOf_7cf53_1 : decode cJ0_indexOf_7cf53 1 = .ok (.invokevirtual 492, 3) := by decide +kernel
theorem dJ0_indexOf_7cf53_4 : decode cJ0_indexOf_7cf53 4 = .ok (.ifCond .eq 19, 3) := by decide +kernel
theorem dJ0_indexOf_7cf53_7 : decode cJ0_indexOf_7cf53 7 = .ok (.aload_n 0, 1) := by decide +kernel
theorem dJ0_indexOf_7cf53_8 : decode cJ0_indexOf_7cf53 8 = .ok (.getfield 9, 3) := by decide +kernel
theorem dJ0_indexOf_7cf53_11 : decode cJ0_indexOf_7cf53 11 = .ok (.iload_n 1, 1) := by decide +kernel
theorem dJ0_indexOf_7cf53_12 : decode cJ0_indexOf_7cf53 12 = .ok (.iload_n 2, 1) := by decide +kernel
theorem dJ0_indexOf_7cf53_13 : decode cJ0_indexOf_7cf53 13 = .ok (.aload_n 0, 1) := by decide +kernel
theorem dJ0_indexOf_7cf53_14 : decode cJ0_indexOf_7cf53 14 = .ok (.invokevirtual 505, 3) := by decide +kernel
theorem dJ0_indexOf_7cf53_17 : decode cJ0_indexOf_7cf53 17 = .ok (.invokestatic 637, 3) := by decide +kernel
theorem dJ0_indexOf_7cf53_20 : decode cJ0_indexOf_7cf53 20 = .ok (.goto 16, 3) := by decide +kernel
theorem dJ0_indexOf_7cf53_23 : decode cJ0_indexOf_7cf53 23 = .ok (.aload_n 0, 1) := by decide +kernel
theorem dJ0_indexOf_7cf53_24 : decode cJ0_indexOf_7cf53 24 = .ok (.getfield 9, 3) := by decide +kernel
theorem dJ0_indexOf_7cf53_27 : decode cJ0_indexOf_7cf53 27 = .ok (.iload_n 1, 1) := by decide +kernel
theorem dJ0_indexOf_7cf53_28 : decode cJ0_indexOf_7cf53 28 = .ok (.iload_n 2, 1) := by decide +kernel
theorem dJ0_indexOf_7cf53_29 : decode cJ0_indexOf_7cf53 29 = .ok (.aload_n 0, 1) := by decide +kernel
theorem dJ0_indexOf_7cf53_30 : decode cJ0_indexOf_7cf53 30 = .ok (.invokevirtual 505, 3) := by decide +kernel
theorem dJ0_indexOf_7cf53_33 : decode cJ0_indexOf_7cf53 33 = .ok (.invokestatic 640, 3) := by decide +kernel
theorem dJ0_indexOf_7cf53_36 : decode cJ0_indexOf_7cf53 36 = .ok (.ireturn, 1) := by decide +kernel
theorem dJ0_coder_7d493_0 : decode cJ0_coder_7d493 0 = .ok (.getstatic 38, 3) := by decide +kernel
theorem dJ0_coder_7d493_3 : decode cJ0_coder_7d493 3 = .ok (.ifCond .eq 10, 3) := by decide +kernel
theorem dJ0_coder_7d493_6 : decode cJ0_coder_7d493 6 = .ok (.aload_n 0, 1) := by decide +kernel
theorem dJ0_coder_7d493_7 : decode cJ0_coder_7d493 7 = .ok (.getfield 15, 3) := by decide +kernel
theorem dJ0_coder_7d493_10 : decode cJ0_coder_7d493 10 = .ok (.goto 4, 3) := by decide +kernel
theorem dJ0_coder_7d493_13 : decode cJ0_coder_7d493 13 = .ok (.iconst 1, 1) := by decide +kernel
theorem dJ0_coder_7d493_14 : decode cJ0_coder_7d493 14 = .ok (.ireturn, 1) := by decide +kernel
theorem dJ0_isLatin1_aae02_0 : decode cJ0_isLatin1_aae02 0 = .ok (.getstatic 38, 3) := by decide +kernel
theorem dJ0_isLatin1_aae02_3 : decode cJ0_isLatin1_aae02 3 = .ok (.ifCond .eq 14, 3) := by decide +kernel
theorem dJ0_isLatin1_aae02_6 : decode cJ0_isLatin1_aae02 6 = .ok (.aload_n 0, 1) := by decide +kernel
theorem dJ0_isLatin1_aae02_7 : decode cJ0_isLatin1_aae02 7 = .ok (.getfield 15, 3) := by decide +kernel
theorem dJ0_isLatin1_aae02_10 : decode cJ0_isLatin1_aae02 10 = .ok (.ifCond .ne 7, 3) := by decide +kernel
theorem dJ0_isLatin1_aae02_13 : decode cJ0_isLatin1_aae02 13 = .ok (.iconst 1, 1) := by decide +kernel
theorem dJ0_isLatin1_aae02_14 : decode cJ0_isLatin1_aae02 14 = .ok (.goto 4, 3) := by decide +kernel
theorem dJ0_isLatin1_aae02_17 : decode cJ0_isLatin1_aae02 17 = .ok (.iconst 0, 1) := by decide +kernel
theorem dJ0_isLatin1_aae02_18 : decode cJ0_isLatin1_aae02 18 = .ok (.ireturn, 1) := by decide +kernel
set_option maxRecDepth 20000 in
theorem ggJ0_checkIndex_df160_J3_checkIndex_8e157 : GoodIn wsJ0_checkIndex_df160 wsJ3_checkIndex_8e157 := goodIn_r _ [5] (by decide +kernel) (by decide +kernel)
set_option maxRecDepth 20000 in
theorem gJ0_checkIndex_df160_J3_checkIndex_8e157 : GoodIn wsJ0_checkIndex_df160 (va_wsS RJ0 1059 yJ3_checkIndex_8e157 wsJ3_checkIndex_8e157) := goodIn_app (goodIn_of _ (by decide +kernel)) ggJ0_checkIndex_df160_J3_checkIndex_8e157
theorem dJ0_checkIndex_df160_0 : decode cJ0_checkIndex_df160 0 = .ok (.iload_n 0, 1) := by decide +kernel
theorem dJ0_checkIndex_df160_1 : decode cJ0_checkIndex_df160 1 = .ok (.iload_n 1, 1) := by decide +kernel
theorem dJ0_checkIndex_df160_2 : decode cJ0_checkIndex_df160 2 = .ok (.getstatic 1053, 3) := by decide +kernel
theorem dJ0_checkIndex_df160_5 : decode cJ0_checkIndex_df160 5 = .ok (.invokestatic 1059, 3) := by decide +kernel
theorem dJ0_checkIndex_df160_8 : decode cJ0_checkIndex_df160 8 = .ok (.pop, 1) := by decide +kernel
theorem dJ0_checkIndex_df160_9 : decode cJ0_checkIndex_df160 9 = .ok (.return_, 1) := by decide +kernel
set_option maxRecDepth 20000 in
theorem ggJ0_checkBoundsBeginEnd_23922_J3_checkFromToIndex_8c36e : GoodIn wsJ0_checkBoundsBeginEnd_23922 wsJ3_checkFromToIndex_8c36e := goodIn_r _ [5] (by decide +kernel) (by decide +kernel)
set_option maxRecDepth 20000 in
theorem gJ0_checkBoundsBeginEnd_23922_J3_checkFromToIndex_8c36e : GoodIn wsJ0_checkBoundsBeginEnd_23922 (va_wsS RJ0 1062 yJ3_checkFromToIndex_8c36e wsJ3_checkFromToIndex_8c36e) := goodIn_app (goodIn_of _ (by decide +kernel)) ggJ0_checkBoundsBeginEnd_23922_J3_checkFromToIndex_8c36e
theorem dJ0_checkBoundsBeginEnd_23922_0 : decode cJ0_checkBoundsBeginEnd_23922 0 = .ok (.iload_n 0, 1) := by decide +kernel
theorem dJ0_checkBoundsBeginEnd_23922_1 : decode cJ0_checkBoundsBeginEnd_23922 1 = .ok (.iload_n 1, 1) := by decide +kernel
theorem dJ0_checkBoundsBeginEnd_23922_2 : decode cJ0_checkBoundsBeginEnd_23922 2 = .ok (.iload_n 2, 1) := by decide +kernel
theorem dJ0_checkBoundsBeginEnd_23922_3 : decode cJ0_checkBoundsBeginEnd_23922 3 = .ok (.getstatic 1053, 3) := by decide +kernel
theorem dJ0_checkBoundsBeginEnd_23922_6 : decode cJ0_checkBoundsBeginEnd_23922 6 = .ok (.invokestatic 1062, 3) := by decide +kernel
theorem dJ0_checkBoundsBeginEnd_23922_9 : decode cJ0_checkBoundsBeginEnd_23922 9 = .ok (.pop, 1) := by decide +kernel
theorem dJ0_checkBoundsBeginEnd_23922_10 : decode cJ0_checkBoundsBeginEnd_23922 10 = .ok (.return_, 1) := by decide +kernel
set_option maxRecDepth 20000 in
theorem ggJ1_charAt_3b067_J0_checkIndex_df160 : GoodIn wsJ1_charAt_3b067 wsJ0_checkIndex_df160 := goodIn_r _ [4, 5, 6, 7, 8, 9] (by decide +kernel) (by decide +kernel)
set_option maxRecDepth 20000 in
theorem gJ1_charAt_3b067_J0_checkIndex_df160 : GoodIn wsJ1_charAt_3b067 (va_wsS RJ1 9 yJ0_checkIndex_df160 wsJ0_checkIndex_df160) := goodIn_app (goodIn_of _ (by decide +kernel)) ggJ1_charAt_3b067_J0_checkIndex_df160
theorem dJ1_charAt_3b067_0 : decode cJ1_charAt_3b067 0 = .ok (.iload_n 1, 1) := by decide +kernel
theorem dJ1_charAt_3b067_1 : decode cJ1_charAt_3b067 1 = .ok (.aload_n 0, 1) := by decide +kernel
theorem dJ1_charAt_3b067_2 : decode cJ1_charAt_3b067 2 = .ok (.arraylength, 1) := by decide +kernel
theorem dJ1_charAt_3b067_3 : decode cJ1_charAt_3b067 3 = .ok (.invokestatic 9, 3) := by decide +kernel
theorem dJ1_charAt_3b067_6 : decode cJ1_charAt_3b067 6 = .ok (.aload_n 0, 1) := by decide +kernel
theorem dJ1_charAt_3b067_7 : decode cJ1_charAt_3b067 7 = .ok (.iload_n 1, 1) := by decide +kernel
theorem dJ1_charAt_3b067_8 : decode cJ1_charAt_3b067 8 = .ok (.baload, 1) := by decide +kernel
theorem dJ1_charAt_3b067_9 : decode cJ1_charAt_3b067 9 = .ok (.sipush 255, 3) := by decide +kernel
theorem dJ1_charAt_3b067_12 : decode cJ1_charAt_3b067 12 = .ok (.iand, 1) := by decide +kernel
theorem dJ1_charAt_3b067_13 : decode cJ1_charAt_3b067 13 = .ok (.i2c, 1) := by decide +kernel
theorem dJ1_charAt_3b067_14 : decode cJ1_charAt_3b067 14 = .ok (.ireturn, 1) := by decide +kernel
theorem dJ1_canEncode_9a6ad_0 : decode cJ1_canEncode_9a6ad 0 = .ok (.iload_n 0, 1) := by decide +kernel
theorem dJ1_canEncode_9a6ad_1 : decode cJ1_canEncode_9a6ad 1 = .ok (.ifCond .lt 14, 3) := by decide +kernel
theorem dJ1_canEncode_9a6ad_4 : decode cJ1_canEncode_9a6ad 4 = .ok (.iload_n 0, 1) := by decide +kernel
theorem dJ1_canEncode_9a6ad_5 : decode cJ1_canEncode_9a6ad 5 = .ok (.sipush 255, 3) := by decide +kernel
theorem dJ1_canEncode_9a6ad_8 : decode cJ1_canEncode_9a6ad 8 = .ok (.if_icmp .gt 7, 3) := by decide +kernel
theorem dJ1_canEncode_9a6ad_11 : decode cJ1_canEncode_9a6ad 11 = .ok (.iconst 1, 1) := by decide +kernel
theorem dJ1_canEncode_9a6ad_12 : decode cJ1_canEncode_9a6ad 12 = .ok (.goto 4, 3) := by decide +kernel
theorem dJ1_canEncode_9a6ad_15 : decode cJ1_canEncode_9a6ad 15 = .ok (.iconst 0, 1) := by decide +kernel
theorem dJ1_canEncode_9a6ad_16 : decode cJ1_canEncode_9a6ad 16 = .ok (.ireturn, 1) := by decide +kernel
set_option maxRecDepth 20000 in
theorem ggJ1_indexOf_4cfef_J1_canEncode_9a6ad : GoodIn wsJ1_indexOf_4cfef wsJ1_canEncode_9a6ad := goodIn_r _ [11] (by decide +kernel) (by decide +kernel)
set_option maxRecDepth 20000 in
theorem gJ1_indexOf_4cfef_J1_canEncode_9a6ad : GoodIn wsJ1_indexOf_4cfef (va_wsS RJ1 88 yJ1_canEncode_9a6ad wsJ1_canEncode_9a6ad) := goodIn_app (goodIn_of _ (by decide +kernel)) ggJ1_indexOf_4cfef_J1_canEncode_9a6ad
set_option maxRecDepth 20000 in
theorem ggJ1_indexOf_4cfef_J1_indexOfChar_4cfef : GoodIn wsJ1_indexOf_4cfef wsJ1_indexOfChar_4cfef := goodIn_r _ [14] (by decide +kernel) (by decide +kernel)
set_option maxRecDepth 20000 in
theorem gJ1_indexOf_4cfef_J1_indexOfChar_4cfef : GoodIn wsJ1_indexOf_4cfef (va_wsS RJ1 95 yJ1_indexOfChar_4cfef wsJ1_indexOfChar_4cfef) := goodIn_app (goodIn_of _ (by decide +kernel)) ggJ1_indexOf_4cfef_J1_indexOfChar_4cfef
theorem dJ1_indexOf_4cfef_0 : decode cJ1_indexOf_4cfef 0 = .ok (.iload_n 1, 1) := by decide +kernel
theorem dJ1_indexOf_4cfef_1 : decode cJ1_indexOf_4cfef 1 = .ok (.invokestatic 88, 3) := by decide +kernel
theorem dJ1_indexOf_4cfef_4 : decode cJ1_indexOf_4cfef 4 = .ok (.ifCond .ne 5, 3) := by decide +kernel
theorem dJ1_indexOf_4cfef_7 : decode cJ1_indexOf_4cfef 7 = .ok (.iconst (-1), 1) := by decide +kernel
theorem dJ1_indexOf_4cfef_8 : decode cJ1_indexOf_4cfef 8 = .ok (.ireturn, 1) := by decide +kernel
theorem dJ1_indexOf_4cfef_9 : decode cJ1_indexOf_4cfef 9 = .ok (.iload_n 2, 1) := by decide +kernel
theorem dJ1_indexOf_4cfef_10 : decode cJ1_indexOf_4cfef 10 = .ok (.iconst 0, 1) := by decide +kernel
theorem dJ1_indexOf_4cfef_11 : decode cJ1_indexOf_4cfef 11 = .ok (.invokestatic 92, 3) := by decide +kernel
theorem dJ1_indexOf_4cfef_14 : decode cJ1_indexOf_4cfef 14 = .ok (.istore_n 2, 1) := by decide +kernel
theorem dJ1_indexOf_4cfef_15 : decode cJ1_indexOf_4cfef 15 = .ok (.iload_n 3, 1) := by decide +kernel
theorem dJ1_indexOf_4cfef_16 : decode cJ1_indexOf_4cfef 16 = .ok (.aload_n 0, 1) := by decide +kernel
theorem dJ1_indexOf_4cfef_17 : decode cJ1_indexOf_4cfef 17 = .ok (.arraylength, 1) := by decide +kernel
theorem dJ1_indexOf_4cfef_18 : decode cJ1_indexOf_4cfef 18 = .ok (.invokestatic 38, 3) := by decide +kernel
theorem dJ1_indexOf_4cfef_21 : decode cJ1_indexOf_4cfef 21 = .ok (.istore_n 3, 1) := by decide +kernel
theorem dJ1_indexOf_4cfef_22 : decode cJ1_indexOf_4cfef 22 = .ok (.iload_n 2, 1) := by decide +kernel
theorem dJ1_indexOf_4cfef_23 : decode cJ1_indexOf_4cfef 23 = .ok (.iload_n 3, 1) := by decide +kernel
theorem dJ1_indexOf_4cfef_24 : decode cJ1_indexOf_4cfef 24 = .ok (.if_icmp .lt 5, 3) := by decide +kernel
theorem dJ1_indexOf_4cfef_27 : decode cJ1_indexOf_4cfef 27 = .ok (.iconst (-1), 1) := by decide +kernel
theorem dJ1_indexOf_4cfef_28 : decode cJ1_indexOf_4cfef 28 = .ok (.ireturn, 1) := by decide +kernel
theorem dJ1_indexOf_4cfef_29 : decode cJ1_indexOf_4cfef 29 = .ok (.aload_n 0, 1) := by decide +kernel
theorem dJ1_indexOf_4cfef_30 : decode cJ1_indexOf_4cfef 30 = .ok (.iload_n 1, 1) := by decide +kernel
theorem dJ1_indexOf_4cfef_31 : decode cJ1_indexOf_4cfef 31 = .ok (.iload_n 2, 1) := by decide +kernel
theorem dJ1_indexOf_4cfef_32 : decode cJ1_indexOf_4cfef 32 = .ok (.iload_n 3, 1) := by decide +kernel
theorem dJ1_indexOf_4cfef_33 : decode cJ1_indexOf_4cfef 33 = .ok (.invokestatic 95, 3) := by decide +kernel
theorem dJ1_indexOf_4cfef_36 : decode cJ1_indexOf_4cfef 36 = .ok (.ireturn, 1) := by decide +kernel
theorem dJ1_indexOfChar_4cfef_0 : decode cJ1_indexOfChar_4cfef 0 = .ok (.iload_n 1, 1) := by decide +kernel
theorem dJ1_indexOfChar_4cfef_1 : decode cJ1_indexOfChar_4cfef 1 = .ok (.i2b, 1) := by decide +kernel
theorem dJ1_indexOfChar_4cfef_2 : decode cJ1_indexOfChar_4cfef 2 = .ok (.istore 4, 2) := by decide +kernel
theorem dJ1_indexOfChar_4cfef_4 : decode cJ1_indexOfChar_4cfef 4 = .ok (.iload_n 2, 1) := by decide +kernel
theorem dJ1_indexOfChar_4cfef_5 : decode cJ1_indexOfChar_4cfef 5 = .ok (.istore 5, 2) := by decide +kernel
theorem dJ1_indexOfChar_4cfef_7 : decode cJ1_indexOfChar_4cfef 7 = .ok (.iload 5, 2) := by decide +kernel
theorem dJ1_indexOfChar_4cfef_9 : decode cJ1_indexOfChar_4cfef 9 = .ok (.iload_n 3, 1) := by decide +kernel
theorem dJ1_indexOfChar_4cfef_10 : decode cJ1_indexOfChar_4cfef 10 = .ok (.if_icmp .ge 21, 3) := by decide +kernel
theorem dJ1_indexOfChar_4cfef_13 : decode cJ1_indexOfChar_4cfef 13 = .ok (.aload_n 0, 1) := by decide +kernel
theorem dJ1_indexOfChar_4cfef_14 : decode cJ1_indexOfChar_4cfef 14 = .ok (.iload 5, 2) := by decide +kernel
theorem dJ1_indexOfChar_4cfef_16 : decode cJ1_indexOfChar_4cfef 16 = .ok (.baload, 1) := by decide +kernel
theorem dJ1_indexOfChar_4cfef_17 : decode cJ1_indexOfChar_4cfef 17 = .ok (.iload 4, 2) := by decide +kernel
theorem dJ1_indexOfChar_4cfef_19 : decode cJ1_indexOfChar_4cfef 19 = .ok (.if_icmp .ne 6, 3) := by decide +kernel
theorem dJ1_indexOfChar_4cfef_22 : decode cJ1_indexOfChar_4cfef 22 = .ok (.iload 5, 2) := by decide +kernel
theorem dJ1_indexOfChar_4cfef_24 : decode cJ1_indexOfChar_4cfef 24 = .ok (.ireturn, 1) := by decide +kernel
theorem dJ1_indexOfChar_4cfef_25 : decode cJ1_indexOfChar_4cfef 25 = .ok (.iinc 5 1, 3) := by decide +kernel
theorem dJ1_indexOfChar_4cfef_28 : decode cJ1_indexOfChar_4cfef 28 = .ok (.goto (-21), 3) := by decide +kernel
theorem dJ1_indexOfChar_4cfef_31 : decode cJ1_indexOfChar_4cfef 31 = .ok (.iconst (-1), 1) := by decide +kernel
theorem dJ1_indexOfChar_4cfef_32 : decode cJ1_indexOfChar_4cfef 32 = .ok (.ireturn, 1) := by decide +kernel
set_option maxRecDepth 20000 in
theorem ggJ2_getChar_3b067_J2_length_9d52b : GoodIn wsJ2_getChar_3b067 wsJ2_length_9d52b := goodIn_r _ [7] (by decide +kernel) (by decide +kernel)
set_option maxRecDepth 20000 in
theorem gJ2_getChar_3b067_J2_length_9d52b : GoodIn wsJ2_getChar_3b067 (va_wsS RJ2 48 yJ2_length_9d52b wsJ2_length_9d52b) := goodIn_app (goodIn_of _ (by decide +kernel)) ggJ2_getChar_3b067_J2_length_9d52b
theorem dJ2_getChar_3b067_0 : decode cJ2_getChar_3b067 0 = .ok (.getstatic 44, 3) := by decide +kernel
theorem dJ2_getChar_3b067_3 : decode cJ2_getChar_3b067 3 = .ok (.ifCond .ne 25, 3) := by decide +kernel
theorem dJ2_getChar_3b067_6 : decode cJ2_getChar_3b067 6 = .ok (.iload_n 1, 1) := by decide +kernel
theorem dJ2_getChar_3b067_7 : decode cJ2_getChar_3b067 7 = .ok (.ifCond .lt 11, 3) := by decide +kernel
theorem dJ2_getChar_3b067_10 : decode cJ2_getChar_3b067 10 = .ok (.iload_n 1, 1) := by decide +kernel
theorem dJ2_getChar_3b067_11 : decode cJ2_getChar_3b067 11 = .ok (.aload_n 0, 1) := by decide +kernel
theorem dJ2_getChar_3b067_12 : decode cJ2_getChar_3b067 12 = .ok (.invokestatic 48, 3) := by decide +kernel
theorem dJ2_getChar_3b067_15 : decode cJ2_getChar_3b067 15 = .ok (.if_icmp .lt 13, 3) := by decide +kernel
theorem dJ2_getChar_3b067_18 : decode cJ2_getChar_3b067 18 = .ok (.new 52, 3) := by decide +kernel
theorem dJ2_getChar_3b067_21 : decode cJ2_getChar_3b067 21 = .ok (.dup, 1) := by decide +kernel
theorem dJ2_getChar_3b067_22 : decode cJ2_getChar_3b067 22 = .ok (.ldc 54, 2) := by decide +kernel
theorem dJ2_getChar_3b067_24 : decode cJ2_getChar_3b067 24 = .ok (.invokespecial 56, 3) := by decide +kernel
theorem dJ2_getChar_3b067_27 : decode cJ2_getChar_3b067 27 = .ok (.athrow, 1) := by decide +kernel
theorem dJ2_getChar_3b067_28 : decode cJ2_getChar_3b067 28 = .ok (.iload_n 1, 1) := by decide +kernel
theorem dJ2_getChar_3b067_29 : decode cJ2_getChar_3b067 29 = .ok (.iconst 1, 1) := by decide +kernel
theorem dJ2_getChar_3b067_30 : decode cJ2_getChar_3b067 30 = .ok (.ishl, 1) := by decide +kernel
theorem dJ2_getChar_3b067_31 : decode cJ2_getChar_3b067 31 = .ok (.istore_n 1, 1) := by decide +kernel
theorem dJ2_getChar_3b067_32 : decode cJ2_getChar_3b067 32 = .ok (.aload_n 0, 1) := by decide +kernel
theorem dJ2_getChar_3b067_33 : decode cJ2_getChar_3b067 33 = .ok (.iload_n 1, 1) := by decide +kernel
theorem dJ2_getChar_3b067_34 : decode cJ2_getChar_3b067 34 = .ok (.iinc 1 1, 3) := by decide +kernel
theorem dJ2_getChar_3b067_37 : decode cJ2_getChar_3b067 37 = .ok (.baload, 1) := by decide +kernel
theorem dJ2_getChar_3b067_38 : decode cJ2_getChar_3b067 38 = .ok (.sipush 255, 3) := by decide +kernel
theorem dJ2_getChar_3b067_41 : decode cJ2_getChar_3b067 41 = .ok (.iand, 1) := by decide +kernel
theorem dJ2_getChar_3b067_42 : decode cJ2_getChar_3b067 42 = .ok (.getstatic 59, 3) := by decide +kernel
theorem dJ2_getChar_3b067_45 : decode cJ2_getChar_3b067 45 = .ok (.ishl, 1) := by decide +kernel
theorem dJ2_getChar_3b067_46 : decode cJ2_getChar_3b067 46 = .ok (.aload_n 0, 1) := by decide +kernel
theorem dJ2_getChar_3b067_47 : decode cJ2_getChar_3b067 47 = .ok (.iload_n 1, 1) := by decide +kernel
theorem dJ2_getChar_3b067_48 : decode cJ2_getChar_3b067 48 = .ok (.baload, 1) := by decide +kernel
theorem dJ2_getChar_3b067_49 : decode cJ2_getChar_3b067 49 = .ok (.sipush 255, 3) := by decide +kernel
theorem dJ2_getChar_3b067_52 : decode cJ2_getChar_3b067 52 = .ok (.iand, 1) := by decide +kernel
theorem dJ2_getChar_3b067_53 : decode cJ2_getChar_3b067 53 = .ok (.getstatic 63, 3) := by decide +kernel
theorem dJ2_getChar_3b067_56 : decode cJ2_getChar_3b067 56 = .ok (.ishl, 1) := by decide +kernel
theorem dJ2_getChar_3b067_57 : decode cJ2_getChar_3b067 57 = .ok (.ior, 1) := by decide +kernel
theorem dJ2_getChar_3b067_58 : decode cJ2_getChar_3b067 58 = .ok (.i2c, 1) := by decide +kernel
theorem dJ2_getChar_3b067_59 : decode cJ2_getChar_3b067 59 = .ok (.ireturn, 1) := by decide +kernel
theorem dJ2_length_9d52b_0 : decode cJ2_length_9d52b 0 = .ok (.aload_n 0, 1) := by decide +kernel
theorem dJ2_length_9d52b_1 : decode cJ2_length_9d52b 1 = .ok (.arraylength, 1) := by decide +kernel
theorem dJ2_length_9d52b_2 : decode cJ2_length_9d52b 2 = .ok (.iconst 1, 1) := by decide +kernel
theorem dJ2_length_9d52b_3 : decode cJ2_length_9d52b 3 = .ok (.ishr, 1) := by decide +kernel
theorem dJ2_length_9d52b_4 : decode cJ2_length_9d52b 4 = .ok (.ireturn, 1) := by decide +kernel
set_option maxRecDepth 20000 in
theorem ggJ2_indexOf_4cfef_J2_indexOfChar_4cfef : GoodIn wsJ2_indexOf_4cfef wsJ2_indexOfChar_4cfef := goodIn_r _ [12, 13, 14, 11, 15, 16, 17, 18, 19, 20, 21, 22, 23, 24, 25, 26, 27, 28, 29, 30, 31, 32, 33, 34, 35, 36] (by decide +kernel) (by decide +kernel)
set_option maxRecDepth 20000 in
theorem gJ2_indexOf_4cfef_J2_indexOfChar_4cfef : GoodIn wsJ2_indexOf_4cfef (va_wsS RJ2 228 yJ2_indexOfChar_4cfef wsJ2_indexOfChar_4cfef) := goodIn_app (goodIn_of _ (by decide +kernel)) ggJ2_indexOf_4cfef_J2_indexOfChar_4cfef
set_option maxRecDepth 20000 in
theorem ggJ2_indexOf_4cfef_J2_indexOfSupplementary_4cfef : GoodIn wsJ2_indexOf_4cfef wsJ2_indexOfSupplementary_4cfef := goodIn_r _ [39, 40, 41, 42, 43, 44, 45, 46, 47, 48, 49, 50, 51, 13, 14, 11, 15, 16, 17, 18, 19, 20, 21, 22, 23, 24, 25, 26, 27, 31, 32, 33, 34, 35, 36] (by decide +kernel) (by decide +kernel)
set_option maxRecDepth 20000 in
theorem gJ2_indexOf_4cfef_J2_indexOfSupplementary_4cfef : GoodIn wsJ2_indexOf_4cfef (va_wsS RJ2 232 yJ2_indexOfSupplementary_4cfef wsJ2_indexOfSupplementary_4cfef) := goodIn_app (goodIn_of _ (by decide +kernel)) ggJ2_indexOf_4cfef_J2_indexOfSupplementary_4cfef
theorem dJ2_indexOf_4cfef_0 : decode cJ2_indexOf_4cfef 0 = .ok (.iload_n 2, 1) := by decide +kernel
theorem dJ2_indexOf_4cfef_1 : decode cJ2_indexOf_4cfef 1 = .ok (.iconst 0, 1) := by decide +kernel
theorem dJ2_indexOf_4cfef_2 : decode cJ2_indexOf_4cfef 2 = .ok (.invokestatic 224, 3) := by decide +kernel
theorem dJ2_indexOf_4cfef_5 : decode cJ2_indexOf_4cfef 5 = .ok (.istore_n 2, 1) := by decide +kernel
theorem dJ2_indexOf_4cfef_6 : decode cJ2_indexOf_4cfef 6 = .ok (.iload_n 3, 1) := by decide +kernel
theorem dJ2_indexOf_4cfef_7 : decode cJ2_indexOf_4cfef 7 = .ok (.aload_n 0, 1) := by decide +kernel
theorem dJ2_indexOf_4cfef_8 : decode cJ2_indexOf_4cfef 8 = .ok (.arraylength, 1) := by decide +kernel
theorem dJ2_indexOf_4cfef_9 : decode cJ2_indexOf_4cfef 9 = .ok (.iconst 1, 1) := by decide +kernel
theorem dJ2_indexOf_4cfef_10 : decode cJ2_indexOf_4cfef 10 = .ok (.ishr, 1) := by decide +kernel
theorem dJ2_indexOf_4cfef_11 : decode cJ2_indexOf_4cfef 11 = .ok (.invokestatic 183, 3) := by decide +kernel
theorem dJ2_indexOf_4cfef_14 : decode cJ2_indexOf_4cfef 14 = .ok (.istore_n 3, 1) := by decide +kernel
theorem dJ2_indexOf_4cfef_15 : decode cJ2_indexOf_4cfef 15 = .ok (.iload_n 2, 1) := by decide +kernel
theorem dJ2_indexOf_4cfef_16 : decode cJ2_indexOf_4cfef 16 = .ok (.iload_n 3, 1) := by decide +kernel
theorem dJ2_indexOf_4cfef_17 : decode cJ2_indexOf_4cfef 17 = .ok (.if_icmp .lt 5, 3) := by decide +kernel
theorem dJ2_indexOf_4cfef_20 : decode cJ2_indexOf_4cfef 20 = .ok (.iconst (-1), 1) := by decide +kernel
theorem dJ2_indexOf_4cfef_21 : decode cJ2_indexOf_4cfef 21 = .ok (.ireturn, 1) := by decide +kernel
theorem dJ2_indexOf_4cfef_22 : decode cJ2_indexOf_4cfef 22 = .ok (.iload_n 1, 1) := by decide +kernel
theorem dJ2_indexOf_4cfef_23 : decode cJ2_indexOf_4cfef 23 = .ok (.ldc 227, 2) := by decide +kernel
theorem dJ2_indexOf_4cfef_25 : decode cJ2_indexOf_4cfef 25 = .ok (.if_icmp .ge 11, 3) := by decide +kernel
theorem dJ2_indexOf_4cfef_28 : decode cJ2_indexOf_4cfef 28 = .ok (.aload_n 0, 1) := by decide +kernel
theorem dJ2_indexOf_4cfef_29 : decode cJ2_indexOf_4cfef 29 = .ok (.iload_n 1, 1) := by decide +kernel
theorem dJ2_indexOf_4cfef_30 : decode cJ2_indexOf_4cfef 30 = .ok (.iload_n 2, 1) := by decide +kernel
theorem dJ2_indexOf_4cfef_31 : decode cJ2_indexOf_4cfef 31 = .ok (.iload_n 3, 1) := by decide +kernel
theorem dJ2_indexOf_4cfef_32 : decode cJ2_indexOf_4cfef 32 = .ok (.invokestatic 228, 3) := by decide +kernel
theorem dJ2_indexOf_4cfef_35 : decode cJ2_indexOf_4cfef 35 = .ok (.ireturn, 1) := by decide +kernel
theorem dJ2_indexOf_4cfef_36 : decode cJ2_indexOf_4cfef 36 = .ok (.aload_n 0, 1) := by decide +kernel
theorem dJ2_indexOf_4cfef_37 : decode cJ2_indexOf_4cfef 37 = .ok (.iload_n 1, 1) := by decide +kernel
theorem dJ2_indexOf_4cfef_38 : decode cJ2_indexOf_4cfef 38 = .ok (.iload_n 2, 1) := by decide +kernel
theorem dJ2_indexOf_4cfef_39 : decode cJ2_indexOf_4cfef 39 = .ok (.iload_n 3, 1) := by decide +kernel
theorem dJ2_indexOf_4cfef_40 : decode cJ2_indexOf_4cfef 40 = .ok (.invokestatic 232, 3) := by decide +kernel
theorem dJ2_indexOf_4cfef_43 : decode cJ2_indexOf_4cfef 43 = .ok (.ireturn, 1) := by decide +kernel
set_option maxRecDepth 20000 in
theorem ggJ2_indexOfChar_4cfef_J2_checkBoundsBeginEnd_d044e : GoodIn wsJ2_indexOfChar_4cfef wsJ2_checkBoundsBeginEnd_d044e := goodIn_r _ [4, 5, 6, 3, 7, 8, 9, 10, 11, 12, 13, 14, 15, 16] (by decide +kernel) (by decide +kernel)
set_option maxRecDepth 20000 in
theorem gJ2_indexOfChar_4cfef_J2_checkBoundsBeginEnd_d044e : GoodIn wsJ2_indexOfChar_4cfef (va_wsS RJ2 96 yJ2_checkBoundsBeginEnd_d044e wsJ2_checkBoundsBeginEnd_d044e) := goodIn_app (goodIn_of _ (by decide +kernel)) ggJ2_indexOfChar_4cfef_J2_checkBoundsBeginEnd_d044e
set_option maxRecDepth 20000 in
theorem ggJ2_indexOfChar_4cfef_J2_indexOfCharUnsafe_4cfef : GoodIn wsJ2_indexOfChar_4cfef wsJ2_indexOfCharUnsafe_4cfef := goodIn_r _ [19, 20, 21, 3, 22, 23, 24, 25, 5, 6, 7] (by decide +kernel) (by decide +kernel)
set_option maxRecDepth 20000 in
theorem gJ2_indexOfChar_4cfef_J2_indexOfCharUnsafe_4cfef : GoodIn wsJ2_indexOfChar_4cfef (va_wsS RJ2 244 yJ2_indexOfCharUnsafe_4cfef wsJ2_indexOfCharUnsafe_4cfef) := goodIn_app (goodIn_of _ (by decide +kernel)) ggJ2_indexOfChar_4cfef_J2_indexOfCharUnsafe_4cfef
theorem dJ2_indexOfChar_4cfef_0 : decode cJ2_indexOfChar_4cfef 0 = .ok (.iload_n 2, 1) := by decide +kernel
theorem dJ2_indexOfChar_4cfef_1 : decode cJ2_indexOfChar_4cfef 1 = .ok (.iload_n 3, 1) := by decide +kernel
theorem dJ2_indexOfChar_4cfef_2 : decode cJ2_indexOfChar_4cfef 2 = .ok (.aload_n 0, 1) := by decide +kernel
theorem dJ2_indexOfChar_4cfef_3 : decode cJ2_indexOfChar_4cfef 3 = .ok (.invokestatic 96, 3) := by decide +kernel
theorem dJ2_indexOfChar_4cfef_6 : decode cJ2_indexOfChar_4cfef 6 = .ok (.aload_n 0, 1) := by decide +kernel
theorem dJ2_indexOfChar_4cfef_7 : decode cJ2_indexOfChar_4cfef 7 = .ok (.iload_n 1, 1) := by decide +kernel
theorem dJ2_indexOfChar_4cfef_8 : decode cJ2_indexOfChar_4cfef 8 = .ok (.iload_n 2, 1) := by decide +kernel
theorem dJ2_indexOfChar_4cfef_9 : decode cJ2_indexOfChar_4cfef 9 = .ok (.iload_n 3, 1) := by decide +kernel
theorem dJ2_indexOfChar_4cfef_10 : decode cJ2_indexOfChar_4cfef 10 = .ok (.invokestatic 244, 3) := by decide +kernel
theorem dJ2_indexOfChar_4cfef_13 : decode cJ2_indexOfChar_4cfef 13 = .ok (.ireturn, 1) := by decide +kernel
set_option maxRecDepth 20000 in
theorem ggJ2_indexOfCharUnsafe_4cfef_J2_getChar_3b067 : GoodIn wsJ2_indexOfCharUnsafe_4cfef wsJ2_getChar_3b067 := goodIn_r _ [4, 5, 6, 7, 8, 9, 3, 10] (by decide +kernel) (by decide +kernel)
set_option maxRecDepth 20000 in
theorem gJ2_indexOfCharUnsafe_4cfef_J2_getChar_3b067 : GoodIn wsJ2_indexOfCharUnsafe_4cfef (va_wsS RJ2 71 yJ2_getChar_3b067 wsJ2_getChar_3b067) := goodIn_app (goodIn_of _ (by decide +kernel)) ggJ2_indexOfCharUnsafe_4cfef_J2_getChar_3b067
theorem dJ2_indexOfCharUnsafe_4cfef_0 : decode cJ2_indexOfCharUnsafe_4cfef 0 = .ok (.iload_n 2, 1) := by decide +kernel
theorem dJ2_indexOfCharUnsafe_4cfef_1 : decode cJ2_indexOfCharUnsafe_4cfef 1 = .ok (.istore 4, 2) := by decide +kernel
theorem dJ2_indexOfCharUnsafe_4cfef_3 : decode cJ2_indexOfCharUnsafe_4cfef 3 = .ok (.iload 4, 2) := by decide +kernel
theorem dJ2_indexOfCharUnsafe_4cfef_5 : decode cJ2_indexOfCharUnsafe_4cfef 5 = .ok (.iload_n 3, 1) := by decide +kernel
theorem dJ2_indexOfCharUnsafe_4cfef_6 : decode cJ2_indexOfCharUnsafe_4cfef 6 = .ok (.if_icmp .ge 22, 3) := by decide +kernel
theorem dJ2_indexOfCharUnsafe_4cfef_9 : decode cJ2_indexOfCharUnsafe_4cfef 9 = .ok (.aload_n 0, 1) := by decide +kernel
theorem dJ2_indexOfCharUnsafe_4cfef_10 : decode cJ2_indexOfCharUnsafe_4cfef 10 = .ok (.iload 4, 2) := by decide +kernel
theorem dJ2_indexOfCharUnsafe_4cfef_12 : decode cJ2_indexOfCharUnsafe_4cfef 12 = .ok (.invokestatic 71, 3) := by decide +kernel
theorem dJ2_indexOfCharUnsafe_4cfef_15 : decode cJ2_indexOfCharUnsafe_4cfef 15 = .ok (.iload_n 1, 1) := by decide +kernel
theorem dJ2_indexOfCharUnsafe_4cfef_16 : decode cJ2_indexOfCharUnsafe_4cfef 16 = .ok (.if_icmp .ne 6, 3) := by decide +kernel
theorem dJ2_indexOfCharUnsafe_4cfef_19 : decode cJ2_indexOfCharUnsafe_4cfef 19 = .ok (.iload 4, 2) := by decide +kernel
theorem dJ2_indexOfCharUnsafe_4cfef_21 : decode cJ2_indexOfCharUnsafe_4cfef 21 = .ok (.ireturn, 1) := by decide +kernel
theorem dJ2_indexOfCharUnsafe_4cfef_22 : decode cJ2_indexOfCharUnsafe_4cfef 22 = .ok (.iinc 4 1, 3) := by decide +kernel
theorem dJ2_indexOfCharUnsafe_4cfef_25 : decode cJ2_indexOfCharUnsafe_4cfef 25 = .ok (.goto (-22), 3) := by decide +kernel
theorem dJ2_indexOfCharUnsafe_4cfef_28 : decode cJ2_indexOfCharUnsafe_4cfef 28 = .ok (.iconst (-1), 1) := by decide +kernel
theorem dJ2_indexOfCharUnsafe_4cfef_29 : decode cJ2_indexOfCharUnsafe_4cfef 29 = .ok (.ireturn, 1) := by decide +kernel
set_option maxRecDepth 20000 in
theorem ggJ2_indexOfSupplementary_4cfef_J11_isValidCodePoint_9a6ad : GoodIn wsJ2_indexOfSupplementary_4cfef wsJ11_isValidCodePoint_9a6ad := goodIn_r _ [4] (by decide +kernel) (by decide +kernel)
set_option maxRecDepth 20000 in
theorem gJ2_indexOfSupplementary_4cfef_J11_isValidCodePoint_9a6ad : GoodIn wsJ2_indexOfSupplementary_4cfef (va_wsS RJ2 164 yJ11_isValidCodePoint_9a6ad wsJ11_isValidCodePoint_9a6ad) := goodIn_app (goodIn_of _ (by decide +kernel)) ggJ2_indexOfSupplementary_4cfef_J11_isValidCodePoint_9a6ad
set_option maxRecDepth 20000 in
theorem ggJ2_indexOfSupplementary_4cfef_J11_highSurrogate_5068e : GoodIn wsJ2_indexOfSupplementary_4cfef wsJ11_highSurrogate_5068e := goodIn_r _ [7, 8] (by decide +kernel) (by decide +kernel)
set_option maxRecDepth 20000 in
theorem gJ2_indexOfSupplementary_4cfef_J11_highSurrogate_5068e : GoodIn wsJ2_indexOfSupplementary_4cfef (va_wsS RJ2 157 yJ11_highSurrogate_5068e wsJ11_highSurrogate_5068e) := goodIn_app (goodIn_of _ (by decide +kernel)) ggJ2_indexOfSupplementary_4cfef_J11_highSurrogate_5068e
set_option maxRecDepth 20000 in
theorem ggJ2_indexOfSupplementary_4cfef_J11_lowSurrogate_5068e : GoodIn wsJ2_indexOfSupplementary_4cfef wsJ11_lowSurrogate_5068e := goodIn_r _ [11, 12] (by decide +kernel) (by decide +kernel)
set_option maxRecDepth 20000 in
theorem gJ2_indexOfSupplementary_4cfef_J11_lowSurrogate_5068e : GoodIn wsJ2_indexOfSupplementary_4cfef (va_wsS RJ2 161 yJ11_lowSurrogate_5068e wsJ11_lowSurrogate_5068e) := goodIn_app (goodIn_of _ (by decide +kernel)) ggJ2_indexOfSupplementary_4cfef_J11_lowSurrogate_5068e
set_option maxRecDepth 20000 in
theorem ggJ2_indexOfSupplementary_4cfef_J2_checkBoundsBeginEnd_d044e : GoodIn wsJ2_indexOfSupplementary_4cfef wsJ2_checkBoundsBeginEnd_d044e := goodIn_r _ [16, 17, 18, 15, 19, 20, 21, 22, 23, 24, 25, 26, 27, 28] (by decide +kernel) (by decide +kernel)
set_option maxRecDepth 20000 in
theorem gJ2_indexOfSupplementary_4cfef_J2_checkBoundsBeginEnd_d044e : GoodIn wsJ2_indexOfSupplementary_4cfef (va_wsS RJ2 96 yJ2_checkBoundsBeginEnd_d044e wsJ2_checkBoundsBeginEnd_d044e) := goodIn_app (goodIn_of _ (by decide +kernel)) ggJ2_indexOfSupplementary_4cfef_J2_checkBoundsBeginEnd_d044e
set_option maxRecDepth 20000 in
theorem ggJ2_indexOfSupplementary_4cfef_J2_getChar_3b067 : GoodIn wsJ2_indexOfSupplementary_4cfef wsJ2_getChar_3b067 := goodIn_r _ [31, 32, 33, 34, 17, 18, 15, 19] (by decide +kernel) (by decide +kernel)
set_option maxRecDepth 20000 in
theorem gJ2_indexOfSupplementary_4cfef_J2_getChar_3b067 : GoodIn wsJ2_indexOfSupplementary_4cfef (va_wsS RJ2 71 yJ2_getChar_3b067 wsJ2_getChar_3b067) := goodIn_app (goodIn_of _ (by decide +kernel)) ggJ2_indexOfSupplementary_4cfef_J2_getChar_3b067
theorem dJ2_indexOfSupplementary_4cfef_0 : decode cJ2_indexOfSupplementary_4cfef 0 = .ok (.iload_n 1, 1) := by decide +kernel
theorem dJ2_indexOfSupplementary_4cfef_1 : decode cJ2_indexOfSupplementary_4cfef 1 = .ok (.invokestatic 164, 3) := by decide +kernel
theorem dJ2_indexOfSupplementary_4cfef_4 : decode cJ2_indexOfSupplementary_4cfef 4 = .ok (.ifCond .eq 65, 3) := by decide +kernel
theorem dJ2_indexOfSupplementary_4cfef_7 : decode cJ2_indexOfSupplementary_4cfef 7 = .ok (.iload_n 1, 1) := by decide +kernel
theorem dJ2_indexOfSupplementary_4cfef_8 : decode cJ2_indexOfSupplementary_4cfef 8 = .ok (.invokestatic 157, 3) := by decide +kernel
theorem dJ2_indexOfSupplementary_4cfef_11 : decode cJ2_indexOfSupplementary_4cfef 11 = .ok (.istore 4, 2) := by decide +kernel
theorem dJ2_indexOfSupplementary_4cfef_13 : decode cJ2_indexOfSupplementary_4cfef 13 = .ok (.iload_n 1, 1) := by decide +kernel
theorem dJ2_indexOfSupplementary_4cfef_14 : decode cJ2_indexOfSupplementary_4cfef 14 = .ok (.invokestatic 161, 3) := by decide +kernel
theorem dJ2_indexOfSupplementary_4cfef_17 : decode cJ2_indexOfSupplementary_4cfef 17 = .ok (.istore 5, 2) := by decide +kernel
theorem dJ2_indexOfSupplementary_4cfef_19 : decode cJ2_indexOfSupplementary_4cfef 19 = .ok (.iload_n 2, 1) := by decide +kernel
theorem dJ2_indexOfSupplementary_4cfef_20 : decode cJ2_indexOfSupplementary_4cfef 20 = .ok (.iload_n 3, 1) := by decide +kernel
theorem dJ2_indexOfSupplementary_4cfef_21 : decode cJ2_indexOfSupplementary_4cfef 21 = .ok (.aload_n 0, 1) := by decide +kernel
theorem dJ2_indexOfSupplementary_4cfef_22 : decode cJ2_indexOfSupplementary_4cfef 22 = .ok (.invokestatic 96, 3) := by decide +kernel
theorem dJ2_indexOfSupplementary_4cfef_25 : decode cJ2_indexOfSupplementary_4cfef 25 = .ok (.iload_n 2, 1) := by decide +kernel
theorem dJ2_indexOfSupplementary_4cfef_26 : decode cJ2_indexOfSupplementary_4cfef 26 = .ok (.istore 6, 2) := by decide +kernel
theorem dJ2_indexOfSupplementary_4cfef_28 : decode cJ2_indexOfSupplementary_4cfef 28 = .ok (.iload 6, 2) := by decide +kernel
theorem dJ2_indexOfSupplementary_4cfef_30 : decode cJ2_indexOfSupplementary_4cfef 30 = .ok (.iload_n 3, 1) := by decide +kernel
theorem dJ2_indexOfSupplementary_4cfef_31 : decode cJ2_indexOfSupplementary_4cfef 31 = .ok (.iconst 1, 1) := by decide +kernel
theorem dJ2_indexOfSupplementary_4cfef_32 : decode cJ2_indexOfSupplementary_4cfef 32 = .ok (.isub, 1) := by decide +kernel
theorem dJ2_indexOfSupplementary_4cfef_33 : decode cJ2_indexOfSupplementary_4cfef 33 = .ok (.if_icmp .ge 36, 3) := by decide +kernel
theorem dJ2_indexOfSupplementary_4cfef_36 : decode cJ2_indexOfSupplementary_4cfef 36 = .ok (.aload_n 0, 1) := by decide +kernel
theorem dJ2_indexOfSupplementary_4cfef_37 : decode cJ2_indexOfSupplementary_4cfef 37 = .ok (.iload 6, 2) := by decide +kernel
theorem dJ2_indexOfSupplementary_4cfef_39 : decode cJ2_indexOfSupplementary_4cfef 39 = .ok (.invokestatic 71, 3) := by decide +kernel
theorem dJ2_indexOfSupplementary_4cfef_42 : decode cJ2_indexOfSupplementary_4cfef 42 = .ok (.iload 4, 2) := by decide +kernel
theorem dJ2_indexOfSupplementary_4cfef_44 : decode cJ2_indexOfSupplementary_4cfef 44 = .ok (.if_icmp .ne 19, 3) := by decide +kernel
theorem dJ2_indexOfSupplementary_4cfef_47 : decode cJ2_indexOfSupplementary_4cfef 47 = .ok (.aload_n 0, 1) := by decide +kernel
theorem dJ2_indexOfSupplementary_4cfef_48 : decode cJ2_indexOfSupplementary_4cfef 48 = .ok (.iload 6, 2) := by decide +kernel
theorem dJ2_indexOfSupplementary_4cfef_50 : decode cJ2_indexOfSupplementary_4cfef 50 = .ok (.iconst 1, 1) := by decide +kernel
theorem dJ2_indexOfSupplementary_4cfef_51 : decode cJ2_indexOfSupplementary_4cfef 51 = .ok (.iadd, 1) := by decide +kernel
theorem dJ2_indexOfSupplementary_4cfef_52 : decode cJ2_indexOfSupplementary_4cfef 52 = .ok (.invokestatic 71, 3) := by decide +kernel
theorem dJ2_indexOfSupplementary_4cfef_55 : decode cJ2_indexOfSupplementary_4cfef 55 = .ok (.iload 5, 2) := by decide +kernel
theorem dJ2_indexOfSupplementary_4cfef_57 : decode cJ2_indexOfSupplementary_4cfef 57 = .ok (.if_icmp .ne 6, 3) := by decide +kernel
theorem dJ2_indexOfSupplementary_4cfef_60 : decode cJ2_indexOfSupplementary_4cfef 60 = .ok (.iload 6, 2) := by decide +kernel
theorem dJ2_indexOfSupplementary_4cfef_62 : decode cJ2_indexOfSupplementary_4cfef 62 = .ok (.ireturn, 1) := by decide +kernel
theorem dJ2_indexOfSupplementary_4cfef_63 : decode cJ2_indexOfSupplementary_4cfef 63 = .ok (.iinc 6 1, 3) := by decide +kernel
theorem dJ2_indexOfSupplementary_4cfef_66 : decode cJ2_indexOfSupplementary_4cfef 66 = .ok (.goto (-38), 3) := by decide +kernel
theorem dJ2_indexOfSupplementary_4cfef_69 : decode cJ2_indexOfSupplementary_4cfef 69 = .ok (.iconst (-1), 1) := by decide +kernel
theorem dJ2_indexOfSupplementary_4cfef_70 : decode cJ2_indexOfSupplementary_4cfef 70 = .ok (.ireturn, 1) := by decide +kernel
set_option maxRecDepth 20000 in
theorem ggJ2_charAt_3b067_J2_checkIndex_2214a : GoodIn wsJ2_charAt_3b067 wsJ2_checkIndex_2214a := goodIn_r _ [4, 5, 6, 3, 7, 8, 9, 10, 11, 12, 13, 14, 15, 16] (by decide +kernel) (by decide +kernel)
set_option maxRecDepth 20000 in
theorem gJ2_charAt_3b067_J2_checkIndex_2214a : GoodIn wsJ2_charAt_3b067 (va_wsS RJ2 67 yJ2_checkIndex_2214a wsJ2_checkIndex_2214a) := goodIn_app (goodIn_of _ (by decide +kernel)) ggJ2_charAt_3b067_J2_checkIndex_2214a
set_option maxRecDepth 20000 in
theorem ggJ2_charAt_3b067_J2_getChar_3b067 : GoodIn wsJ2_charAt_3b067 wsJ2_getChar_3b067 := goodIn_r _ [19, 20, 21, 22, 5, 6, 3, 7] (by decide +kernel) (by decide +kernel)
set_option maxRecDepth 20000 in
theorem gJ2_charAt_3b067_J2_getChar_3b067 : GoodIn wsJ2_charAt_3b067 (va_wsS RJ2 71 yJ2_getChar_3b067 wsJ2_getChar_3b067) := goodIn_app (goodIn_of _ (by decide +kernel)) ggJ2_charAt_3b067_J2_getChar_3b067
theorem dJ2_charAt_3b067_0 : decode cJ2_charAt_3b067 0 = .ok (.iload_n 1, 1) := by decide +kernel
theorem dJ2_charAt_3b067_1 : decode cJ2_charAt_3b067 1 = .ok (.aload_n 0, 1) := by decide +kernel
theorem dJ2_charAt_3b067_2 : decode cJ2_charAt_3b067 2 = .ok (.invokestatic 67, 3) := by decide +kernel
theorem dJ2_charAt_3b067_5 : decode cJ2_charAt_3b067 5 = .ok (.aload_n 0, 1) := by decide +kernel
theorem dJ2_charAt_3b067_6 : decode cJ2_charAt_3b067 6 = .ok (.iload_n 1, 1) := by decide +kernel
theorem dJ2_charAt_3b067_7 : decode cJ2_charAt_3b067 7 = .ok (.invokestatic 71, 3) := by decide +kernel
theorem dJ2_charAt_3b067_10 : decode cJ2_charAt_3b067 10 = .ok (.ireturn, 1) := by decide +kernel
set_option maxRecDepth 20000 in
theorem ggJ2_checkIndex_2214a_J2_length_9d52b : GoodIn wsJ2_checkIndex_2214a wsJ2_length_9d52b := goodIn_r _ [4] (by decide +kernel) (by decide +kernel)
set_option maxRecDepth 20000 in
theorem gJ2_checkIndex_2214a_J2_length_9d52b : GoodIn wsJ2_checkIndex_2214a (va_wsS RJ2 48 yJ2_length_9d52b wsJ2_length_9d52b) := goodIn_app (goodIn_of _ (by decide +kernel)) ggJ2_checkIndex_2214a_J2_length_9d52b
set_option maxRecDepth 20000 in
theorem ggJ2_checkIndex_2214a_J0_checkIndex_df160 : GoodIn wsJ2_checkIndex_2214a wsJ0_checkIndex_df160 := goodIn_r _ [8, 9, 10, 11, 12, 13] (by decide +kernel) (by decide +kernel)
set_option maxRecDepth 20000 in
theorem gJ2_checkIndex_2214a_J0_checkIndex_df160 : GoodIn wsJ2_checkIndex_2214a (va_wsS RJ2 414 yJ0_checkIndex_df160 wsJ0_checkIndex_df160) := goodIn_app (goodIn_of _ (by decide +kernel)) ggJ2_checkIndex_2214a_J0_checkIndex_df160
theorem dJ2_checkIndex_2214a_0 : decode cJ2_checkIndex_2214a 0 = .ok (.iload_n 0, 1) := by decide +kernel
theorem dJ2_checkIndex_2214a_1 : decode cJ2_checkIndex_2214a 1 = .ok (.aload_n 1, 1) := by decide +kernel
theorem dJ2_checkIndex_2214a_2 : decode cJ2_checkIndex_2214a 2 = .ok (.invokestatic 48, 3) := by decide +kernel
theorem dJ2_checkIndex_2214a_5 : decode cJ2_checkIndex_2214a 5 = .ok (.invokestatic 414, 3) := by decide +kernel
theorem dJ2_checkIndex_2214a_8 : decode cJ2_checkIndex_2214a 8 = .ok (.return_, 1) := by decide +kernel
set_option maxRecDepth 20000 in
theorem ggJ2_checkBoundsBeginEnd_d044e_J2_length_9d52b : GoodIn wsJ2_checkBoundsBeginEnd_d044e wsJ2_length_9d52b := goodIn_r _ [4] (by decide +kernel) (by decide +kernel)
set_option maxRecDepth 20000 in
theorem gJ2_checkBoundsBeginEnd_d044e_J2_length_9d52b : GoodIn wsJ2_checkBoundsBeginEnd_d044e (va_wsS RJ2 48 yJ2_length_9d52b wsJ2_length_9d52b) := goodIn_app (goodIn_of _ (by decide +kernel)) ggJ2_checkBoundsBeginEnd_d044e_J2_length_9d52b
set_option maxRecDepth 20000 in
theorem ggJ2_checkBoundsBeginEnd_d044e_J0_checkBoundsBeginEnd_23922 : GoodIn wsJ2_checkBoundsBeginEnd_d044e wsJ0_checkBoundsBeginEnd_23922 := goodIn_r _ [8, 9, 10, 11, 12, 13] (by decide +kernel) (by decide +kernel)
set_option maxRecDepth 20000 in
theorem gJ2_checkBoundsBeginEnd_d044e_J0_checkBoundsBeginEnd_23922 : GoodIn wsJ2_checkBoundsBeginEnd_d044e (va_wsS RJ2 241 yJ0_checkBoundsBeginEnd_23922 wsJ0_checkBoundsBeginEnd_23922) := goodIn_app (goodIn_of _ (by decide +kernel)) ggJ2_checkBoundsBeginEnd_d044e_J0_checkBoundsBeginEnd_23922
theorem dJ2_checkBoundsBeginEnd_d044e_0 : decode cJ2_checkBoundsBeginEnd_d044e 0 = .ok (.iload_n 0, 1) := by decide +kernel
theorem dJ2_checkBoundsBeginEnd_d044e_1 : decode cJ2_checkBoundsBeginEnd_d044e 1 = .ok (.iload_n 1, 1) := by decide +kernel
theorem dJ2_checkBoundsBeginEnd_d044e_2 : decode cJ2_checkBoundsBeginEnd_d044e 2 = .ok (.aload_n 2, 1) := by decide +kernel
theorem dJ2_checkBoundsBeginEnd_d044e_3 : decode cJ2_checkBoundsBeginEnd_d044e 3 = .ok (.invokestatic 48, 3) := by decide +kernel
theorem dJ2_checkBoundsBeginEnd_d044e_6 : decode cJ2_checkBoundsBeginEnd_d044e 6 = .ok (.invokestatic 241, 3) := by decide +kernel
theorem dJ2_checkBoundsBeginEnd_d044e_9 : decode cJ2_checkBoundsBeginEnd_d044e 9 = .ok (.return_, 1) := by decide +kernel
theorem dJ7_fill_53178_0 : decode cJ7_fill_53178 0 = .ok (.iconst 0, 1) := by decide +kernel
theorem dJ7_fill_53178_1 : decode cJ7_fill_53178 1 = .ok (.istore_n 2, 1) := by decide +kernel
theorem dJ7_fill_53178_2 : decode cJ7_fill_53178 2 = .ok (.aload_n 0, 1) := by decide +kernel
theorem dJ7_fill_53178_3 : decode cJ7_fill_53178 3 = .ok (.arraylength, 1) := by decide +kernel
theorem dJ7_fill_53178_4 : decode cJ7_fill_53178 4 = .ok (.istore_n 3, 1) := by decide +kernel
theorem dJ7_fill_53178_5 : decode cJ7_fill_53178 5 = .ok (.iload_n 2, 1) := by decide +kernel
theorem dJ7_fill_53178_6 : decode cJ7_fill_53178 6 = .ok (.iload_n 3, 1) := by decide +kernel
theorem dJ7_fill_53178_7 : decode cJ7_fill_53178 7 = .ok (.if_icmp .ge 13, 3) := by decide +kernel
theorem dJ7_fill_53178_10 : decode cJ7_fill_53178 10 = .ok (.aload_n 0, 1) := by decide +kernel
theorem dJ7_fill_53178_11 : decode cJ7_fill_53178 11 = .ok (.iload_n 2, 1) := by decide +kernel
theorem dJ7_fill_53178_12 : decode cJ7_fill_53178 12 = .ok (.iload_n 1, 1) := by decide +kernel
theorem dJ7_fill_53178_13 : decode cJ7_fill_53178 13 = .ok (.iastore, 1) := by decide +kernel
theorem dJ7_fill_53178_14 : decode cJ7_fill_53178 14 = .ok (.iinc 2 1, 3) := by decide +kernel
theorem dJ7_fill_53178_17 : decode cJ7_fill_53178 17 = .ok (.goto (-12), 3) := by decide +kernel
theorem dJ7_fill_53178_20 : decode cJ7_fill_53178 20 = .ok (.return_, 1) := by decide +kernel
theorem dJ7_copyOf_59c91_0 : decode cJ7_copyOf_59c91 0 = .ok (.iload_n 1, 1) := by decide +kernel
theorem dJ7_copyOf_59c91_1 : decode cJ7_copyOf_59c91 1 = .ok (.aload_n 0, 1) := by decide +kernel
theorem dJ7_copyOf_59c91_2 : decode cJ7_copyOf_59c91 2 = .ok (.arraylength, 1) := by decide +kernel
theorem dJ7_copyOf_59c91_3 : decode cJ7_copyOf_59c91 3 = .ok (.if_icmp .ne 11, 3) := by decide +kernel
theorem dJ7_copyOf_59c91_6 : decode cJ7_copyOf_59c91 6 = .ok (.aload_n 0, 1) := by decide +kernel
theorem dJ7_copyOf_59c91_7 : decode cJ7_copyOf_59c91 7 = .ok (.invokevirtual 316, 3) := by decide +kernel
theorem dJ7_copyOf_59c91_10 : decode cJ7_copyOf_59c91 10 = .ok (.checkcast 317, 3) := by decide +kernel
theorem dJ7_copyOf_59c91_13 : decode cJ7_copyOf_59c91 13 = .ok (.areturn, 1) := by decide +kernel
theorem dJ7_copyOf_59c91_14 : decode cJ7_copyOf_59c91 14 = .ok (.iload_n 1, 1) := by decide +kernel
theorem dJ7_copyOf_59c91_15 : decode cJ7_copyOf_59c91 15 = .ok (.newarray .int, 2) := by decide +kernel
theorem dJ7_copyOf_59c91_17 : decode cJ7_copyOf_59c91 17 = .ok (.astore_n 2, 1) := by decide +kernel
theorem dJ7_copyOf_59c91_18 : decode cJ7_copyOf_59c91 18 = .ok (.aload_n 0, 1) := by decide +kernel
theorem dJ7_copyOf_59c91_19 : decode cJ7_copyOf_59c91 19 = .ok (.iconst 0, 1) := by decide +kernel
theorem dJ7_copyOf_59c91_20 : decode cJ7_copyOf_59c91 20 = .ok (.aload_n 2, 1) := by decide +kernel
theorem dJ7_copyOf_59c91_21 : decode cJ7_copyOf_59c91 21 = .ok (.iconst 0, 1) := by decide +kernel
theorem dJ7_copyOf_59c91_22 : decode cJ7_copyOf_59c91 22 = .ok (.aload_n 0, 1) := by decide +kernel
theorem dJ7_copyOf_59c91_23 : decode cJ7_copyOf_59c91 23 = .ok (.arraylength, 1) := by decide +kernel
theorem dJ7_copyOf_59c91_24 : decode cJ7_copyOf_59c91 24 = .ok (.iload_n 1, 1) := by decide +kernel
theorem dJ7_copyOf_59c91_25 : decode cJ7_copyOf_59c91 25 = .ok (.invokestatic 304, 3) := by decide +kernel
theorem dJ7_copyOf_59c91_28 : decode cJ7_copyOf_59c91 28 = .ok (.invokestatic 150, 3) := by decide +kernel
theorem dJ7_copyOf_59c91_31 : decode cJ7_copyOf_59c91 31 = .ok (.aload_n 2, 1) := by decide +kernel
theorem dJ7_copyOf_59c91_32 : decode cJ7_copyOf_59c91 32 = .ok (.areturn, 1) := by decide +kernel
theorem dJ7_copyOf_c38d5_0 : decode cJ7_copyOf_c38d5 0 = .ok (.iload_n 1, 1) := by decide +kernel
theorem dJ7_copyOf_c38d5_1 : decode cJ7_copyOf_c38d5 1 = .ok (.aload_n 0, 1) := by decide +kernel
theorem dJ7_copyOf_c38d5_2 : decode cJ7_copyOf_c38d5 2 = .ok (.arraylength, 1) := by decide +kernel
theorem dJ7_copyOf_c38d5_3 : decode cJ7_copyOf_c38d5 3 = .ok (.if_icmp .ne 11, 3) := by decide +kernel
theorem dJ7_copyOf_c38d5_6 : decode cJ7_copyOf_c38d5 6 = .ok (.aload_n 0, 1) := by decide +kernel
theorem dJ7_copyOf_c38d5_7 : decode cJ7_copyOf_c38d5 7 = .ok (.invokevirtual 319, 3) := by decide +kernel
theorem dJ7_copyOf_c38d5_10 : decode cJ7_copyOf_c38d5 10 = .ok (.checkcast 320, 3) := by decide +kernel
theorem dJ7_copyOf_c38d5_13 : decode cJ7_copyOf_c38d5 13 = .ok (.areturn, 1) := by decide +kernel
theorem dJ7_copyOf_c38d5_14 : decode cJ7_copyOf_c38d5 14 = .ok (.iload_n 1, 1) := by decide +kernel
theorem dJ7_copyOf_c38d5_15 : decode cJ7_copyOf_c38d5 15 = .ok (.newarray .long, 2) := by decide +kernel
theorem dJ7_copyOf_c38d5_17 : decode cJ7_copyOf_c38d5 17 = .ok (.astore_n 2, 1) := by decide +kernel
theorem dJ7_copyOf_c38d5_18 : decode cJ7_copyOf_c38d5 18 = .ok (.aload_n 0, 1) := by decide +kernel
theorem dJ7_copyOf_c38d5_19 : decode cJ7_copyOf_c38d5 19 = .ok (.iconst 0, 1) := by decide +kernel
theorem dJ7_copyOf_c38d5_20 : decode cJ7_copyOf_c38d5 20 = .ok (.aload_n 2, 1) := by decide +kernel
theorem dJ7_copyOf_c38d5_21 : decode cJ7_copyOf_c38d5 21 = .ok (.iconst 0, 1) := by decide +kernel
theorem dJ7_copyOf_c38d5_22 : decode cJ7_copyOf_c38d5 22 = .ok (.aload_n 0, 1) := by decide +kernel
theorem dJ7_copyOf_c38d5_23 : decode cJ7_copyOf_c38d5 23 = .ok (.arraylength, 1) := by decide +kernel
theorem dJ7_copyOf_c38d5_24 : decode cJ7_copyOf_c38d5 24 = .ok (.iload_n 1, 1) := by decide +kernel
theorem dJ7_copyOf_c38d5_25 : decode cJ7_copyOf_c38d5 25 = .ok (.invokestatic 304, 3) := by decide +kernel
theorem dJ7_copyOf_c38d5_28 : decode cJ7_copyOf_c38d5 28 = .ok (.invokestatic 150, 3) := by decide +kernel
theorem dJ7_copyOf_c38d5_31 : decode cJ7_copyOf_c38d5 31 = .ok (.aload_n 2, 1) := by decide +kernel
theorem dJ7_copyOf_c38d5_32 : decode cJ7_copyOf_c38d5 32 = .ok (.areturn, 1) := by decide +kernel
theorem dJ3_checkIndex_8e157_0 : decode cJ3_checkIndex_8e157 0 = .ok (.iload_n 0, 1) := by decide +kernel
theorem dJ3_checkIndex_8e157_1 : decode cJ3_checkIndex_8e157 1 = .ok (.ifCond .lt 8, 3) := by decide +kernel
theorem dJ3_checkIndex_8e157_4 : decode cJ3_checkIndex_8e157 4 = .ok (.iload_n 0, 1) := by decide +kernel
theorem dJ3_checkIndex_8e157_5 : decode cJ3_checkIndex_8e157 5 = .ok (.iload_n 1, 1) := by decide +kernel
theorem dJ3_checkIndex_8e157_6 : decode cJ3_checkIndex_8e157 6 = .ok (.if_icmp .lt 10, 3) := by decide +kernel
theorem dJ3_checkIndex_8e157_9 : decode cJ3_checkIndex_8e157 9 = .ok (.aload_n 2, 1) := by decide +kernel
theorem dJ3_checkIndex_8e157_10 : decode cJ3_checkIndex_8e157 10 = .ok (.iload_n 0, 1) := by decide +kernel
theorem dJ3_checkIndex_8e157_11 : decode cJ3_checkIndex_8e157 11 = .ok (.iload_n 1, 1) := by decide +kernel
theorem dJ3_checkIndex_8e157_12 : decode cJ3_checkIndex_8e157 12 = .ok (.invokestatic 95, 3) := by decide +kernel
theorem dJ3_checkIndex_8e157_15 : decode cJ3_checkIndex_8e157 15 = .ok (.athrow, 1) := by decide +kernel
theorem dJ3_checkIndex_8e157_16 : decode cJ3_checkIndex_8e157 16 = .ok (.iload_n 0, 1) := by decide +kernel
theorem dJ3_checkIndex_8e157_17 : decode cJ3_checkIndex_8e157 17 = .ok (.ireturn, 1) := by decide +kernel
theorem dJ3_checkFromToIndex_8c36e_0 : decode cJ3_checkFromToIndex_8c36e 0 = .ok (.iload_n 0, 1) := by decide +kernel
theorem dJ3_checkFromToIndex_8c36e_1 : decode cJ3_checkFromToIndex_8c36e 1 = .ok (.ifCond .lt 13, 3) := by decide +kernel
theorem dJ3_checkFromToIndex_8c36e_4 : decode cJ3_checkFromToIndex_8c36e 4 = .ok (.iload_n 0, 1) := by decide +kernel
theorem dJ3_checkFromToIndex_8c36e_5 : decode cJ3_checkFromToIndex_8c36e 5 = .ok (.iload_n 1, 1) := by decide +kernel
theorem dJ3_checkFromToIndex_8c36e_6 : decode cJ3_checkFromToIndex_8c36e 6 = .ok (.if_icmp .gt 8, 3) := by decide +kernel
theorem dJ3_checkFromToIndex_8c36e_9 : decode cJ3_checkFromToIndex_8c36e 9 = .ok (.iload_n 1, 1) := by decide +kernel
theorem dJ3_checkFromToIndex_8c36e_10 : decode cJ3_checkFromToIndex_8c36e 10 = .ok (.iload_n 2, 1) := by decide +kernel
theorem dJ3_checkFromToIndex_8c36e_11 : decode cJ3_checkFromToIndex_8c36e 11 = .ok (.if_icmp .le 11, 3) := by decide +kernel
theorem dJ3_checkFromToIndex_8c36e_14 : decode cJ3_checkFromToIndex_8c36e 14 = .ok (.aload_n 3, 1) := by decide +kernel
theorem dJ3_checkFromToIndex_8c36e_15 : decode cJ3_checkFromToIndex_8c36e 15 = .ok (.iload_n 0, 1) := by decide +kernel
theorem dJ3_checkFromToIndex_8c36e_16 : decode cJ3_checkFromToIndex_8c36e 16 = .ok (.iload_n 1, 1) := by decide +kernel
theorem dJ3_checkFromToIndex_8c36e_17 : decode cJ3_checkFromToIndex_8c36e 17 = .ok (.iload_n 2, 1) := by decide +kernel
theorem dJ3_checkFromToIndex_8c36e_18 : decode cJ3_checkFromToIndex_8c36e 18 = .ok (.invokestatic 99, 3) := by decide +kernel
theorem dJ3_checkFromToIndex_8c36e_21 : decode cJ3_checkFromToIndex_8c36e 21 = .ok (.athrow, 1) := by decide +kernel
theorem dJ3_checkFromToIndex_8c36e_22 : decode cJ3_checkFromToIndex_8c36e 22 = .ok (.iload_n 0, 1) := by decide +kernel
theorem dJ3_checkFromToIndex_8c36e_23 : decode cJ3_checkFromToIndex_8c36e 23 = .ok (.ireturn, 1) := by decide +kernel
set_option maxRecDepth 20000 in
theorem ggL_law_X12_init : GoodIn wsL_law wsX12_init := goodIn_r _ [8, 9, 10, 11, 12, 13, 14, 15, 16, 17, 18, 19, 20, 21, 22, 23, 24, 25, 26, 27, 28, 29, 30, 31, 32, 33, 34, 35, 36, 37, 38, 39, 40, 41, 42, 43, 44, 45, 46, 47, 48, 49, 50, 51, 52, 53, 54, 55, 56, 57, 58, 59, 60, 61, 62, 63, 64, 65, 66, 67, 68, 69, 70, 71, 72, 73, 74, 75, 76, 77, 78, 79, 80, 81, 82, 83, 84, 85, 86, 87, 88, 89, 90, 91, 92, 93, 94, 95, 96, 97, 98, 99, 100, 101, 102, 103, 104, 105, 106, 107, 108, 109, 110, 111, 112, 113, 114, 115, 116, 117, 118, 119, 120, 121, 122, 123, 124, 125, 126, 127, 128, 129, 130, 131, 132, 133, 134, 135, 136, 137, 138, 1893, 1894, 1895, 1896, 1897, 1898, 1899, 1900, 1901, 1902, 1903, 1904, 1905, 1906, 1907, 1769, 1770, 1771, 1772, 1773, 1774, 1775, 1776, 1777, 1778, 1779, 1780, 1781, 1782, 1783, 1784, 1785, 1786, 1787, 1788, 1908, 1909, 1910, 1911, 1912, 1913, 1914, 1915, 1916, 1917, 1918, 1919, 1920, 1921, 1922, 1923, 1924, 1925, 1926, 1927, 1928, 1929, 1930, 1931, 1932, 1933, 1934, 1935, 1936, 1937, 1938, 1939, 1940, 1941, 1942, 1943, 1944, 1945, 1946, 1947, 1948, 1949, 1950, 1951, 1952, 1953, 1954, 1955, 1956, 1957, 1958, 1959, 1960] (by decide +kernel) (by decide +kernel)
set_option maxRecDepth 20000 in
theorem gL_law_X12_init : GoodIn wsL_law (wsX12_init) := ggL_law_X12_init
set_option maxRecDepth 20000 in
theorem ggL_law_X13_init : GoodIn wsL_law wsX13_init := goodIn_r _ [141, 142, 10, 11, 57, 143, 30, 144, 145, 146, 147, 148, 149, 150, 151, 152, 153, 154, 155, 156, 157, 158, 159, 160, 161, 108, 162, 163, 164, 165, 166, 167, 168, 169, 170, 171, 172, 173, 174, 175, 176, 177, 178, 179, 180, 181, 182, 183, 184, 185, 186, 187, 188, 189, 190, 191, 192, 193, 194, 195, 196, 197, 198, 199, 200, 201, 202, 203, 204, 205, 206, 207, 208, 209, 210, 211, 212, 213, 214, 215, 216, 217, 218, 219, 220, 1789, 1790, 1791, 1792, 1793, 1794, 1795, 1796, 1797, 1798, 1799, 1800, 1801, 1802, 1803, 1804, 1805, 1806, 1807, 1808, 1809, 1810, 1811, 1812, 1813, 1814, 1815, 1816, 1817, 1818, 1819, 1820, 1821, 1822, 1823, 1824, 1825, 1826, 1827, 1828, 1829, 1830, 1831, 1832, 1833, 1834, 1835, 1836, 1837, 1838, 1839, 1840, 1841, 1842, 1843, 1844, 1845, 1846, 1847, 1848, 1849, 1850, 1851, 1852, 1853, 1854, 1855, 1856, 1857, 1858, 1859, 1860, 1861, 1862, 1863, 1864, 1865, 1866, 1867, 1868, 1869, 1870, 1871, 1872, 1873, 1874, 1875, 1876, 1877, 1878, 1879, 1880, 1881, 1882, 1883, 1884, 1885, 1886, 1887, 1888, 1889, 1890, 1891, 1892] (by decide +kernel) (by decide +kernel)
set_option maxRecDepth 20000 in
theorem gL_law_X13_init : GoodIn wsL_law (wsX13_init) := ggL_law_X13_init
set_option maxRecDepth 20000 in
theorem ggL_law_X12_feed : GoodIn wsL_law wsX12_feed := goodIn_r _ [224, 15, 225, 226, 227, 228, 14, 229, 230, 58, 1769, 1770, 1771, 1772, 1773, 1774, 1775, 1776, 1777, 1778, 1779, 1780, 1781, 1782, 1783, 1784, 1785, 1786, 1787, 1788, 1893, 1894, 1895, 1896, 1897, 1898, 1899, 1900, 1901, 1902, 1903, 1904, 1905, 1906, 1907] (by decide +kernel) (by decide +kernel)
set_option maxRecDepth 20000 in
theorem gL_law_X12_feed : GoodIn wsL_law (wsV RL 13 RX12 yX12_feed wsX12_feed) := goodIn_app (goodIn_of _ (by decide +kernel)) ggL_law_X12_feed
set_option maxRecDepth 20000 in
theorem ggL_law_X13_feed : GoodIn wsL_law wsX13_feed := goodIn_r _ [234, 235, 143, 1789, 1790, 1791, 1792, 1793, 1794, 1795, 1796, 1797, 1798, 1799, 1800, 1801, 1802, 1803, 1804, 1805, 1806, 1807, 1808, 1809, 1810, 1811, 1812, 1813, 1814, 1815, 1816, 1817, 1818, 1819, 1820, 1821, 1822, 1823, 1824, 1825, 1826, 1827, 1828, 1829, 1830, 1831, 1832, 1833, 1834, 1835, 1836, 1837, 1838, 1839, 1840, 1841, 1842, 1843, 1844, 1845, 1846, 1847, 1848, 1849, 1850, 1851, 1852, 1853, 1854, 1855, 1856, 1857, 1858, 1859, 1860, 1861, 1862, 1863, 1864, 1865, 1866, 1867, 1868, 1869, 1870, 1871, 1872, 1873, 1874, 1875, 1876, 1877, 1878, 1879, 1880, 1881, 1882, 1883, 1884, 1885, 1886, 1887, 1888, 1889, 1890, 1891, 1892] (by decide +kernel) (by decide +kernel)
set_option maxRecDepth 20000 in
theorem gL_law_X13_feed : GoodIn wsL_law (wsV RL 17 RX13 yX13_feed wsX13_feed) := goodIn_app (goodIn_of _ (by decide +kernel)) ggL_law_X13_feed
set_option maxRecDepth 20000 in
theorem ggL_law_X12_end : GoodIn wsL_law wsX12_end := goodIn_r _ [239, 15, 225, 1769, 1770, 1771, 1772, 1773, 1774, 1775, 1776, 1777, 1778, 1779, 1780, 1781, 1782, 1783, 1784, 1785, 1786, 1787, 1788, 1893, 1894, 1895, 1896, 1897, 1898, 1899, 1900, 1901, 1902, 1903, 1904, 1905, 1906, 1907] (by decide +kernel) (by decide +kernel)
set_option maxRecDepth 20000 in
theorem gL_law_X12_end : GoodIn wsL_law (wsV RL 18 RX12 yX12_end wsX12_end) := goodIn_app (goodIn_of _ (by decide +kernel)) ggL_law_X12_end
set_option maxRecDepth 20000 in
theorem ggL_law_X13_end : GoodIn wsL_law wsX13_end := goodIn_r _ [243, 235, 244, 245, 5, 246, 1789, 1790, 1791, 1792, 1793, 1794, 1795, 1796, 1797, 1798, 1799, 1800, 1801, 1802, 1803, 1804, 1805, 1806, 1807, 1808, 1809, 1810, 1811, 1812, 1813, 1814, 1815, 1816, 1817, 1818, 1819, 1820, 1821, 1822, 1823, 1824, 1825, 1826, 1827, 1828, 1829, 1830, 1831, 1832, 1833, 1834, 1835, 1836, 1837, 1838, 1839, 1840, 1841, 1842, 1843, 1844, 1845, 1846, 1847, 1848, 1849, 1850, 1851, 1852, 1853, 1854, 1855, 1856, 1857, 1858, 1859, 1860, 1861, 1862, 1863, 1864, 1865, 1866, 1867, 1868, 1869, 1870, 1871, 1872, 1873, 1874, 1875, 1876, 1877, 1878, 1879, 1880, 1881, 1882, 1883, 1884, 1885, 1886, 1887, 1888, 1889, 1890, 1891, 1892] (by decide +kernel) (by decide +kernel)
set_option maxRecDepth 20000 in
theorem gL_law_X13_end : GoodIn wsL_law (wsV RL 22 RX13 yX13_end wsX13_end) := goodIn_app (goodIn_of _ (by decide +kernel)) ggL_law_X13_end
set_option maxRecDepth 20000 in
theorem ggL_law_X12_fault : GoodIn wsL_law wsX12_fault := goodIn_r _ [250, 15, 251, 252, 253, 14, 254, 255, 256, 257, 258, 64, 230, 259, 260, 261, 262, 263, 264, 265, 266, 267, 58, 268, 269, 270, 271, 272, 273, 274, 275, 276, 277, 278, 279, 280, 281, 282, 283, 284, 285, 286, 287, 288, 289, 290, 291, 292, 293, 294, 295, 296, 297, 298, 299, 300, 301, 302, 303, 304, 305, 306, 307, 308, 309, 310, 311, 92, 312, 313, 91, 93, 314, 315, 316, 317, 318, 319, 320, 321, 322, 323, 324, 325, 326, 327, 328, 329, 330, 331, 332, 333, 334, 335, 336, 337, 338, 339, 340, 341, 342, 343, 344, 345, 346, 347, 348, 349, 350, 351, 352, 353, 354, 355, 356, 357, 358, 359, 360, 361, 362, 363, 364, 365, 366, 367, 368, 369, 370, 371, 372, 373, 374, 375, 59, 60, 61, 62, 376, 377, 378, 379, 380, 381, 382, 383, 384, 385, 386, 387, 388, 389, 390, 391, 392, 393, 394, 395, 396, 397, 398, 399, 400, 401, 402, 403, 404, 405, 406, 407, 408, 409, 410, 111, 112, 113, 411, 412, 413, 414, 415, 416, 417, 418, 419, 420, 421, 422, 423, 424, 425, 426, 427, 428, 429, 430, 67, 431, 432, 433, 434, 435, 436, 437, 438, 439, 440, 441, 442, 443, 444, 445, 446, 63, 447, 448, 449, 450, 451, 452, 453, 454, 455, 456, 457, 458, 459, 460, 461, 462, 463, 464, 465, 466, 467, 468, 469, 470, 471, 472, 473, 474, 475, 476, 477, 478, 479, 480, 481, 482, 65, 1769, 1770, 1771, 1772, 1773, 1774, 1775, 1776, 1777, 1778, 1779, 1780, 1781, 1782, 1783, 1784, 1785, 1786, 1787, 1788, 1893, 1894, 1895, 1896, 1897, 1898, 1899, 1900, 1901, 1902, 1903, 1904, 1905, 1906, 1907] (by decide +kernel) (by decide +kernel)
set_option maxRecDepth 20000 in
theorem gL_law_X12_fault : GoodIn wsL_law (wsV RL 23 RX12 yX12_fault wsX12_fault) := goodIn_app (goodIn_of _ (by decide +kernel)) ggL_law_X12_fault
set_option maxRecDepth 20000 in
theorem ggL_law_X13_fault : GoodIn wsL_law wsX13_fault := goodIn_r _ [486, 487, 488, 489, 5, 490, 491, 492, 493, 494, 495, 147, 148, 144, 496, 497, 498, 499, 500, 235, 143, 501, 502, 503, 504, 505, 506, 507, 508, 509, 510, 511, 299, 300, 285, 301, 291, 302, 303, 304, 305, 296, 297, 512, 382, 383, 384, 292, 293, 294, 295, 385, 386, 308, 387, 388, 389, 390, 339, 391, 392, 342, 393, 394, 395, 322, 396, 397, 398, 399, 333, 334, 335, 400, 347, 348, 349, 350, 351, 352, 513, 514, 515, 516, 517, 518, 519, 520, 521, 522, 523, 524, 525, 526, 527, 528, 145, 146, 529, 530, 531, 532, 533, 534, 535, 536, 537, 538, 539, 540, 244, 245, 246, 541, 542, 543, 544, 149, 150, 545, 546, 547, 548, 549, 550, 551, 552, 553, 554, 555, 556, 557, 558, 559, 560, 561, 562, 563, 564, 565, 566, 567, 568, 569, 570, 571, 572, 573, 574, 575, 576, 577, 578, 579, 580, 581, 582, 583, 584, 585, 1789, 1790, 1791, 1792, 1793, 1794, 1795, 1796, 1797, 1798, 1799, 1800, 1801, 1802, 1803, 1804, 1805, 1806, 1807, 1808, 1809, 1810, 1811, 1812, 1813, 1814, 1815, 1816, 1817, 1818, 1819, 1820, 1821, 1822, 1823, 1824, 1825, 1826, 1827, 1828, 1829, 1830, 1831, 1832, 1833, 1834, 1835, 1836, 1837, 1838, 1839, 1840, 1841, 1842, 1843, 1844, 1845, 1846, 1847, 1848, 1849, 1850, 1851, 1852, 1853, 1854, 1855, 1856, 1857, 1858, 1859, 1860, 1861, 1862, 1863, 1864, 1865, 1866, 1867, 1868, 1869, 1870, 1871, 1872, 1873, 1874, 1875, 1876, 1877, 1878, 1879, 1880, 1881, 1882, 1883, 1884, 1885, 1886, 1887, 1888, 1889, 1890, 1891, 1892] (by decide +kernel) (by decide +kernel)
set_option maxRecDepth 20000 in
theorem gL_law_X13_fault : GoodIn wsL_law (wsV RL 27 RX13 yX13_fault wsX13_fault) := goodIn_app (goodIn_of _ (by decide +kernel)) ggL_law_X13_fault
set_option maxRecDepth 20000 in
theorem ggL_law_X12_sheet : GoodIn wsL_law wsX12_sheet := goodIn_r _ [589, 19, 15, 225, 590, 591, 592, 18, 593, 594, 251, 252, 253, 14, 254, 255, 256, 257, 258, 64, 230, 259, 260, 261, 262, 263, 264, 265, 266, 267, 58, 268, 269, 270, 271, 272, 273, 274, 275, 276, 277, 278, 279, 280, 281, 282, 283, 284, 285, 286, 287, 288, 289, 290, 291, 292, 293, 294, 295, 296, 297, 298, 299, 300, 301, 302, 303, 304, 305, 306, 307, 308, 309, 310, 311, 92, 312, 313, 91, 93, 314, 315, 316, 317, 318, 319, 320, 321, 322, 323, 324, 325, 326, 327, 328, 329, 330, 331, 332, 333, 334, 335, 336, 337, 338, 339, 340, 341, 342, 343, 344, 345, 346, 347, 348, 349, 350, 351, 352, 353, 354, 355, 356, 357, 358, 359, 360, 361, 362, 363, 364, 365, 366, 367, 368, 369, 370, 371, 372, 373, 374, 375, 59, 60, 61, 62, 376, 377, 378, 379, 380, 381, 382, 383, 384, 385, 386, 387, 388, 389, 390, 391, 392, 393, 394, 395, 396, 397, 398, 399, 400, 401, 402, 403, 404, 405, 406, 407, 408, 409, 410, 111, 112, 113, 411, 412, 413, 414, 415, 416, 417, 418, 419, 420, 421, 422, 423, 424, 425, 426, 427, 428, 429, 430, 67, 431, 432, 433, 434, 435, 436, 437, 438, 439, 440, 441, 442, 443, 444, 445, 446, 63, 447, 448, 449, 450, 451, 452, 453, 454, 455, 456, 457, 458, 459, 460, 461, 462, 463, 464, 465, 466, 467, 468, 469, 470, 471, 472, 473, 474, 475, 476, 477, 478, 479, 480, 481, 482, 65, 595, 596, 597, 598, 599, 600, 601, 602, 603, 604, 605, 606, 607, 608, 609, 610, 611, 612, 613, 614, 615, 10, 11, 616, 617, 618, 619, 620, 30, 621, 622, 623, 624, 625, 626, 627, 628, 629, 630, 631, 632, 66, 633, 634, 635, 636, 72, 1769, 1770, 1771, 1772, 1773, 1774, 1775, 1776, 1777, 1778, 1779, 1780, 1781, 1782, 1783, 1784, 1785, 1786, 1787, 1788, 1893, 1894, 1895, 1896, 1897, 1898, 1899, 1900, 1901, 1902, 1903, 1904, 1905, 1906, 1907, 1908, 1909, 1910, 1911, 1912, 1913, 1914, 1915, 1961, 1962, 1963, 1964] (by decide +kernel) (by decide +kernel)
set_option maxRecDepth 20000 in
theorem gL_law_X12_sheet : GoodIn wsL_law (wsV RL 28 RX12 yX12_sheet wsX12_sheet) := goodIn_app (goodIn_of _ (by decide +kernel)) ggL_law_X12_sheet
set_option maxRecDepth 20000 in
theorem ggL_law_X13_sheet : GoodIn wsL_law wsX13_sheet := goodIn_r _ [640, 641, 494, 151, 145, 152, 146, 153, 147, 154, 148, 155, 495, 157, 150, 156, 143, 149, 235, 487, 488, 489, 5, 490, 491, 492, 493, 144, 496, 497, 498, 499, 500, 501, 502, 503, 504, 505, 506, 507, 508, 509, 510, 511, 299, 300, 285, 301, 291, 302, 303, 304, 305, 296, 297, 512, 382, 383, 384, 292, 293, 294, 295, 385, 386, 308, 387, 388, 389, 390, 339, 391, 392, 342, 393, 394, 395, 322, 396, 397, 398, 399, 333, 334, 335, 400, 347, 348, 349, 350, 351, 352, 513, 514, 515, 516, 517, 518, 519, 520, 521, 522, 523, 524, 525, 526, 527, 528, 529, 530, 531, 532, 533, 534, 535, 536, 537, 538, 539, 540, 244, 245, 246, 541, 542, 543, 544, 545, 546, 547, 548, 549, 550, 551, 552, 553, 554, 555, 556, 557, 558, 559, 560, 561, 562, 563, 564, 565, 566, 567, 568, 569, 570, 571, 572, 573, 574, 575, 576, 577, 578, 579, 580, 581, 582, 583, 584, 585, 1789, 1790, 1791, 1792, 1793, 1794, 1795, 1796, 1797, 1798, 1799, 1800, 1801, 1802, 1803, 1804, 1805, 1806, 1807, 1808, 1809, 1810, 1811, 1812, 1813, 1814, 1815, 1816, 1817, 1818, 1819, 1820, 1821, 1822, 1823, 1824, 1825, 1826, 1827, 1828, 1829, 1830, 1831, 1832, 1833, 1834, 1835, 1836, 1837, 1838, 1839, 1840, 1841, 1842, 1843, 1844, 1845, 1846, 1847, 1848, 1849, 1850, 1851, 1852, 1853, 1854, 1855, 1856, 1857, 1858, 1859, 1860, 1861, 1862, 1863, 1864, 1865, 1866, 1867, 1868, 1869, 1870, 1871, 1872, 1873, 1874, 1875, 1876, 1877, 1878, 1879, 1880, 1881, 1882, 1883, 1884, 1885, 1886, 1887, 1888, 1889, 1890, 1891, 1892] (by decide +kernel) (by decide +kernel)
set_option maxRecDepth 20000 in
theorem gL_law_X13_sheet : GoodIn wsL_law (wsV RL 31 RX13 yX13_sheet wsX13_sheet) := goodIn_app (goodIn_of _ (by decide +kernel)) ggL_law_X13_sheet
set_option maxRecDepth 20000 in
theorem ggL_law_X12_force : GoodIn wsL_law wsX12_force := goodIn_r _ [645, 19, 646, 647, 648, 649, 2, 650, 651, 652, 653, 654, 655, 656, 657, 658, 18, 659, 594, 660, 73, 74, 75, 661, 662, 663, 664, 23, 665, 666, 667, 668, 669, 22, 670, 671, 672, 673, 82, 674, 675, 676, 677, 678, 679, 680, 72, 681, 682, 683, 684, 685, 686, 687, 688, 689, 690, 691, 601, 692, 693, 694, 695, 696, 697, 698, 699, 700, 77, 76, 701, 702, 703, 704, 705, 706, 707, 92, 708, 709, 710, 711, 712, 713, 714, 715, 29, 716, 717, 718, 719, 720, 721, 722, 723, 724, 725, 726, 727, 728, 729, 730, 731, 732, 733, 734, 735, 736, 737, 738, 739, 740, 277, 741, 742, 743, 276, 278, 744, 745, 746, 747, 748, 749, 750, 751, 752, 25, 1769, 1770, 1771, 1772, 1773, 1774, 1775, 1776, 1777, 1778, 1779, 1780, 1781, 1782, 1783, 1784, 1785, 1786, 1787, 1788, 1908, 1909, 1910, 1911, 1912, 1913, 1914, 1915, 1965, 1966, 1967, 1968, 1969, 1970, 1971, 1972, 1973, 1974, 1975, 1976, 1977, 1978, 1979, 1980, 1981, 1982, 1916, 1917, 1918, 1919, 1920, 1921, 1961, 1962, 1963, 1964, 1922, 1923, 1924, 1925, 1926, 1927, 1928] (by decide +kernel) (by decide +kernel)
set_option maxRecDepth 20000 in
theorem gL_law_X12_force : GoodIn wsL_law (wsV RL 32 RX12 yX12_force wsX12_force) := goodIn_app (goodIn_of _ (by decide +kernel)) ggL_law_X12_force
set_option maxRecDepth 20000 in
theorem ggL_law_X13_force : GoodIn wsL_law wsX13_force := goodIn_r _ [756, 641, 162, 757, 158, 159, 160, 758, 244, 245, 5, 246, 759, 760, 761, 1789, 1790, 1791, 1792, 1793, 1794, 1795, 1796, 1797, 1798, 1799, 1800, 1801, 1802, 1803, 1804, 1805, 1806, 1807, 1808, 1809, 1810, 1811, 1812, 1813, 1814, 1815, 1816, 1817, 1818, 1819, 1820, 1821, 1822, 1823, 1824, 1825, 1826, 1827, 1828, 1829, 1830, 1831, 1832, 1833, 1834, 1835, 1836, 1837, 1838, 1839, 1840, 1841, 1842, 1843, 1844, 1845, 1846, 1847, 1848, 1849, 1850, 1851, 1852, 1853, 1854, 1855, 1856, 1857, 1858, 1859, 1860, 1861, 1862, 1863, 1864, 1865, 1866, 1867, 1868, 1869, 1870, 1871, 1872, 1873, 1874, 1875, 1876, 1877, 1878, 1879, 1880, 1881, 1882, 1883, 1884, 1885, 1886, 1887, 1888, 1889, 1890, 1891, 1892] (by decide +kernel) (by decide +kernel)
set_option maxRecDepth 20000 in
theorem gL_law_X13_force : GoodIn wsL_law (wsV RL 36 RX13 yX13_force wsX13_force) := goodIn_app (goodIn_of _ (by decide +kernel)) ggL_law_X13_force
set_option maxRecDepth 20000 in
theorem ggL_law_X12_rule : GoodIn wsL_law wsX12_rule := goodIn_r _ [765, 646, 19, 766, 767, 601, 768, 647, 648, 649, 2, 650, 769, 682, 683, 18, 684, 660, 73, 685, 686, 687, 688, 75, 74, 72, 689, 690, 691, 692, 693, 1769, 1770, 1771, 1772, 1773, 1774, 1775, 1776, 1777, 1778, 1779, 1780, 1781, 1782, 1783, 1784, 1785, 1786, 1787, 1788, 1908, 1909, 1910, 1911, 1912, 1913, 1914, 1915, 1961, 1962, 1963, 1964] (by decide +kernel) (by decide +kernel)
set_option maxRecDepth 20000 in
theorem gL_law_X12_rule : GoodIn wsL_law (wsV RL 37 RX12 yX12_rule wsX12_rule) := goodIn_app (goodIn_of _ (by decide +kernel)) ggL_law_X12_rule
set_option maxRecDepth 20000 in
theorem ggL_law_X13_rule : GoodIn wsL_law wsX13_rule := goodIn_r _ [773, 758, 244, 245, 5, 246, 774, 775, 776, 777, 757, 160, 159, 153, 158, 1789, 1790, 1791, 1792, 1793, 1794, 1795, 1796, 1797, 1798, 1799, 1800, 1801, 1802, 1803, 1804, 1805, 1806, 1807, 1808, 1809, 1810, 1811, 1812, 1813, 1814, 1815, 1816, 1817, 1818, 1819, 1820, 1821, 1822, 1823, 1824, 1825, 1826, 1827, 1828, 1829, 1830, 1831, 1832, 1833, 1834, 1835, 1836, 1837, 1838, 1839, 1840, 1841, 1842, 1843, 1844, 1845, 1846, 1847, 1848, 1849, 1850, 1851, 1852, 1853, 1854, 1855, 1856, 1857, 1858, 1859, 1860, 1861, 1862, 1863, 1864, 1865, 1866, 1867, 1868, 1869, 1870, 1871, 1872, 1873, 1874, 1875, 1876, 1877, 1878, 1879, 1880, 1881, 1882, 1883, 1884, 1885, 1886, 1887, 1888, 1889, 1890, 1891, 1892] (by decide +kernel) (by decide +kernel)
set_option maxRecDepth 20000 in
theorem gL_law_X13_rule : GoodIn wsL_law (wsV RL 41 RX13 yX13_rule wsX13_rule) := goodIn_app (goodIn_of _ (by decide +kernel)) ggL_law_X13_rule
set_option maxRecDepth 20000 in
theorem ggL_law_X12_go : GoodIn wsL_law wsX12_go := goodIn_r _ [781, 646, 782, 91, 92, 93, 1769, 1770, 1771, 1772, 1773, 1774, 1775, 1776, 1777, 1778, 1779, 1780, 1781, 1782, 1783, 1784, 1785, 1786, 1787, 1788] (by decide +kernel) (by decide +kernel)
set_option maxRecDepth 20000 in
theorem gL_law_X12_go : GoodIn wsL_law (wsV RL 42 RX12 yX12_go wsX12_go) := goodIn_app (goodIn_of _ (by decide +kernel)) ggL_law_X12_go
set_option maxRecDepth 20000 in
theorem ggL_law_X13_go : GoodIn wsL_law wsX13_go := goodIn_r _ [786, 758, 244, 245, 5, 246, 1789, 1790, 1791, 1792, 1793, 1794, 1795, 1796, 1797, 1798, 1799, 1800, 1801, 1802, 1803, 1804, 1805, 1806, 1807, 1808, 1809, 1810, 1811, 1812, 1813, 1814, 1815, 1816, 1817, 1818, 1819, 1820, 1821, 1822, 1823, 1824, 1825, 1826, 1827, 1828, 1829, 1830, 1831, 1832, 1833, 1834, 1835, 1836, 1837, 1838, 1839, 1840, 1841, 1842, 1843, 1844, 1845, 1846, 1847, 1848, 1849, 1850, 1851, 1852, 1853, 1854, 1855, 1856, 1857, 1858, 1859, 1860, 1861, 1862, 1863, 1864, 1865, 1866, 1867, 1868, 1869, 1870, 1871, 1872, 1873, 1874, 1875, 1876, 1877, 1878, 1879, 1880, 1881, 1882, 1883, 1884, 1885, 1886, 1887, 1888, 1889, 1890, 1891, 1892] (by decide +kernel) (by decide +kernel)
set_option maxRecDepth 20000 in
theorem gL_law_X13_go : GoodIn wsL_law (wsV RL 46 RX13 yX13_go wsX13_go) := goodIn_app (goodIn_of _ (by decide +kernel)) ggL_law_X13_go
set_option maxRecDepth 20000 in
theorem ggL_law_X12_bound : GoodIn wsL_law wsX12_bound := goodIn_r _ [790, 655, 25, 748, 744, 745, 746, 2, 747, 749, 750, 751, 752, 647, 648, 649, 650, 661, 662, 663, 664, 23, 646, 665, 666, 667, 668, 669, 22, 670, 671, 672, 673, 82, 674, 675, 676, 677, 678, 18, 679, 680, 72, 681, 682, 683, 684, 660, 73, 685, 686, 687, 688, 75, 74, 689, 690, 691, 601, 692, 693, 694, 695, 696, 697, 698, 699, 700, 77, 76, 701, 702, 703, 704, 705, 706, 707, 92, 708, 709, 710, 711, 712, 713, 714, 715, 29, 716, 717, 718, 719, 720, 721, 722, 723, 724, 725, 726, 727, 728, 729, 730, 731, 732, 733, 734, 735, 736, 737, 738, 739, 740, 277, 741, 742, 743, 276, 278, 1769, 1770, 1771, 1772, 1773, 1774, 1775, 1776, 1777, 1778, 1779, 1780, 1781, 1782, 1783, 1784, 1785, 1786, 1787, 1788, 1922, 1923, 1924, 1925, 1926, 1927, 1928, 1965, 1966, 1967, 1968, 1969, 1970, 1971, 1972, 1973, 1974, 1975, 1976, 1977, 1978, 1979, 1980, 1981, 1982, 1916, 1917, 1918, 1919, 1920, 1921, 1908, 1909, 1910, 1911, 1912, 1913, 1914, 1915, 1961, 1962, 1963, 1964] (by decide +kernel) (by decide +kernel)
set_option maxRecDepth 20000 in
theorem gL_law_X12_bound : GoodIn wsL_law (wsV RL 47 RX12 yX12_bound wsX12_bound) := goodIn_app (goodIn_of _ (by decide +kernel)) ggL_law_X12_bound
set_option maxRecDepth 20000 in
theorem ggL_law_X13_bound : GoodIn wsL_law wsX13_bound := goodIn_r _ [794, 161, 162, 244, 245, 5, 246, 1789, 1790, 1791, 1792, 1793, 1794, 1795, 1796, 1797, 1798, 1799, 1800, 1801, 1802, 1803, 1804, 1805, 1806, 1807, 1808, 1809, 1810, 1811, 1812, 1813, 1814, 1815, 1816, 1817, 1818, 1819, 1820, 1821, 1822, 1823, 1824, 1825, 1826, 1827, 1828, 1829, 1830, 1831, 1832, 1833, 1834, 1835, 1836, 1837, 1838, 1839, 1840, 1841, 1842, 1843, 1844, 1845, 1846, 1847, 1848, 1849, 1850, 1851, 1852, 1853, 1854, 1855, 1856, 1857, 1858, 1859, 1860, 1861, 1862, 1863, 1864, 1865, 1866, 1867, 1868, 1869, 1870, 1871, 1872, 1873, 1874, 1875, 1876, 1877, 1878, 1879, 1880, 1881, 1882, 1883, 1884, 1885, 1886, 1887, 1888, 1889, 1890, 1891, 1892] (by decide +kernel) (by decide +kernel)
set_option maxRecDepth 20000 in
theorem gL_law_X13_bound : GoodIn wsL_law (wsV RL 51 RX13 yX13_bound wsX13_bound) := goodIn_app (goodIn_of _ (by decide +kernel)) ggL_law_X13_bound
set_option maxRecDepth 20000 in
theorem ggL_law_X12_article : GoodIn wsL_law wsX12_article := goodIn_r _ [798, 799, 800, 801, 802, 803, 804, 805, 2, 806, 665, 28, 807, 277, 29, 23, 646, 666, 808, 809, 810, 811, 812, 813, 814, 815, 816, 817, 276, 278, 818, 819, 820, 821, 10, 11, 822, 823, 824, 825, 826, 827, 828, 311, 92, 312, 57, 742, 829, 830, 831, 832, 833, 834, 667, 668, 669, 22, 670, 671, 672, 673, 82, 674, 675, 676, 677, 678, 18, 679, 680, 72, 681, 682, 683, 684, 660, 73, 685, 686, 687, 688, 75, 74, 689, 690, 691, 601, 692, 693, 694, 695, 696, 697, 698, 699, 700, 77, 76, 701, 702, 703, 704, 705, 706, 707, 708, 709, 710, 711, 716, 717, 718, 719, 720, 721, 722, 723, 724, 725, 726, 727, 728, 729, 730, 731, 732, 733, 734, 735, 736, 737, 738, 739, 740, 741, 743, 744, 745, 746, 747, 748, 749, 750, 751, 752, 25, 647, 648, 649, 650, 1965, 1966, 1967, 1968, 1969, 1970, 1971, 1972, 1973, 1974, 1975, 1976, 1977, 1978, 1979, 1980, 1981, 1982, 1769, 1770, 1771, 1772, 1773, 1774, 1775, 1776, 1777, 1778, 1779, 1780, 1781, 1782, 1783, 1784, 1785, 1786, 1787, 1788, 1916, 1917, 1918, 1919, 1920, 1921, 1908, 1909, 1910, 1911, 1912, 1913, 1914, 1915, 1961, 1962, 1963, 1964, 1922, 1923, 1924, 1925, 1926, 1927, 1928] (by decide +kernel) (by decide +kernel)
set_option maxRecDepth 20000 in
theorem gL_law_X12_article : GoodIn wsL_law (wsV RL 52 RX12 yX12_article wsX12_article) := goodIn_app (goodIn_of _ (by decide +kernel)) ggL_law_X12_article
set_option maxRecDepth 20000 in
theorem ggL_law_X13_article : GoodIn wsL_law wsX13_article := goodIn_r _ [838, 170, 171, 172, 839, 840, 841, 5, 842, 208, 504, 505, 506, 513, 514, 515, 244, 245, 246, 843, 844, 845, 846, 847, 167, 168, 169, 173, 174, 177, 178, 1789, 1790, 1791, 1792, 1793, 1794, 1795, 1796, 1797, 1798, 1799, 1800, 1801, 1802, 1803, 1804, 1805, 1806, 1807, 1808, 1809, 1810, 1811, 1812, 1813, 1814, 1815, 1816, 1817, 1818, 1819, 1820, 1821, 1822, 1823, 1824, 1825, 1826, 1827, 1828, 1829, 1830, 1831, 1832, 1833, 1834, 1835, 1836, 1837, 1838, 1839, 1840, 1841, 1842, 1843, 1844, 1845, 1846, 1847, 1848, 1849, 1850, 1851, 1852, 1853, 1854, 1855, 1856, 1857, 1858, 1859, 1860, 1861, 1862, 1863, 1864, 1865, 1866, 1867, 1868, 1869, 1870, 1871, 1872, 1873, 1874, 1875, 1876, 1877, 1878, 1879, 1880, 1881, 1882, 1883, 1884, 1885, 1886, 1887, 1888, 1889, 1890, 1891, 1892] (by decide +kernel) (by decide +kernel)
set_option maxRecDepth 20000 in
theorem gL_law_X13_article : GoodIn wsL_law (wsV RL 56 RX13 yX13_article wsX13_article) := goodIn_app (goodIn_of _ (by decide +kernel)) ggL_law_X13_article
set_option maxRecDepth 20000 in
theorem ggL_law_X12_pointer : GoodIn wsL_law wsX12_pointer := goodIn_r _ [851, 852, 802, 712, 713, 714, 2, 715, 665, 29, 803, 804, 805, 806, 28, 807, 277, 23, 646, 666, 808, 809, 810, 811, 812, 813, 814, 815, 816, 817, 276, 278, 818, 819, 820, 821, 10, 11, 822, 823, 824, 825, 826, 827, 828, 311, 92, 312, 57, 742, 829, 830, 831, 832, 833, 834, 667, 668, 669, 22, 670, 671, 672, 673, 82, 674, 675, 676, 677, 678, 18, 679, 680, 72, 681, 682, 683, 684, 660, 73, 685, 686, 687, 688, 75, 74, 689, 690, 691, 601, 692, 693, 694, 695, 696, 697, 698, 699, 700, 77, 76, 701, 702, 703, 704, 705, 706, 707, 708, 709, 710, 711, 716, 717, 718, 719, 720, 721, 722, 723, 724, 725, 726, 727, 728, 729, 730, 731, 732, 733, 734, 735, 736, 737, 738, 739, 740, 741, 743, 744, 745, 746, 747, 748, 749, 750, 751, 752, 25, 647, 648, 649, 650, 1965, 1966, 1967, 1968, 1969, 1970, 1971, 1972, 1973, 1974, 1975, 1976, 1977, 1978, 1979, 1980, 1981, 1982, 1769, 1770, 1771, 1772, 1773, 1774, 1775, 1776, 1777, 1778, 1779, 1780, 1781, 1782, 1783, 1784, 1785, 1786, 1787, 1788, 1916, 1917, 1918, 1919, 1920, 1921, 1908, 1909, 1910, 1911, 1912, 1913, 1914, 1915, 1961, 1962, 1963, 1964, 1922, 1923, 1924, 1925, 1926, 1927, 1928] (by decide +kernel) (by decide +kernel)
set_option maxRecDepth 20000 in
theorem gL_law_X12_pointer : GoodIn wsL_law (wsV RL 57 RX12 yX12_pointer wsX12_pointer) := goodIn_app (goodIn_of _ (by decide +kernel)) ggL_law_X12_pointer
set_option maxRecDepth 20000 in
theorem ggL_law_X13_pointer : GoodIn wsL_law wsX13_pointer := goodIn_r _ [856, 173, 839, 840, 841, 5, 842, 208, 504, 505, 506, 513, 514, 515, 857, 858, 859, 860, 847, 244, 245, 246, 843, 844, 845, 846, 167, 168, 169, 174, 177, 178, 1789, 1790, 1791, 1792, 1793, 1794, 1795, 1796, 1797, 1798, 1799, 1800, 1801, 1802, 1803, 1804, 1805, 1806, 1807, 1808, 1809, 1810, 1811, 1812, 1813, 1814, 1815, 1816, 1817, 1818, 1819, 1820, 1821, 1822, 1823, 1824, 1825, 1826, 1827, 1828, 1829, 1830, 1831, 1832, 1833, 1834, 1835, 1836, 1837, 1838, 1839, 1840, 1841, 1842, 1843, 1844, 1845, 1846, 1847, 1848, 1849, 1850, 1851, 1852, 1853, 1854, 1855, 1856, 1857, 1858, 1859, 1860, 1861, 1862, 1863, 1864, 1865, 1866, 1867, 1868, 1869, 1870, 1871, 1872, 1873, 1874, 1875, 1876, 1877, 1878, 1879, 1880, 1881, 1882, 1883, 1884, 1885, 1886, 1887, 1888, 1889, 1890, 1891, 1892] (by decide +kernel) (by decide +kernel)
set_option maxRecDepth 20000 in
theorem gL_law_X13_pointer : GoodIn wsL_law (wsV RL 60 RX13 yX13_pointer wsX13_pointer) := goodIn_app (goodIn_of _ (by decide +kernel)) ggL_law_X13_pointer
set_option maxRecDepth 20000 in
theorem ggL_law_X12_plate : GoodIn wsL_law wsX12_plate := goodIn_r _ [864, 802, 865, 866, 867, 2, 868, 712, 713, 714, 715, 665, 29, 803, 804, 805, 806, 28, 807, 277, 23, 646, 666, 808, 809, 810, 811, 812, 813, 814, 815, 816, 817, 276, 278, 818, 819, 820, 821, 10, 11, 822, 823, 824, 825, 826, 827, 828, 311, 92, 312, 57, 742, 829, 830, 831, 832, 833, 834, 667, 668, 669, 22, 670, 671, 672, 673, 82, 674, 675, 676, 677, 678, 18, 679, 680, 72, 681, 682, 683, 684, 660, 73, 685, 686, 687, 688, 75, 74, 689, 690, 691, 601, 692, 693, 694, 695, 696, 697, 698, 699, 700, 77, 76, 701, 702, 703, 704, 705, 706, 707, 708, 709, 710, 711, 716, 717, 718, 719, 720, 721, 722, 723, 724, 725, 726, 727, 728, 729, 730, 731, 732, 733, 734, 735, 736, 737, 738, 739, 740, 741, 743, 744, 745, 746, 747, 748, 749, 750, 751, 752, 25, 647, 648, 649, 650, 1965, 1966, 1967, 1968, 1969, 1970, 1971, 1972, 1973, 1974, 1975, 1976, 1977, 1978, 1979, 1980, 1981, 1982, 1769, 1770, 1771, 1772, 1773, 1774, 1775, 1776, 1777, 1778, 1779, 1780, 1781, 1782, 1783, 1784, 1785, 1786, 1787, 1788, 1916, 1917, 1918, 1919, 1920, 1921, 1908, 1909, 1910, 1911, 1912, 1913, 1914, 1915, 1961, 1962, 1963, 1964, 1922, 1923, 1924, 1925, 1926, 1927, 1928] (by decide +kernel) (by decide +kernel)
set_option maxRecDepth 20000 in
theorem gL_law_X12_plate : GoodIn wsL_law (wsV RL 61 RX12 yX12_plate wsX12_plate) := goodIn_app (goodIn_of _ (by decide +kernel)) ggL_law_X12_plate
set_option maxRecDepth 20000 in
theorem ggL_law_X13_plate : GoodIn wsL_law wsX13_plate := goodIn_r _ [872, 839, 840, 841, 5, 842, 208, 504, 505, 506, 513, 514, 515, 244, 245, 246, 857, 858, 859, 860, 847, 843, 844, 845, 846, 167, 168, 169, 173, 174, 177, 178, 1789, 1790, 1791, 1792, 1793, 1794, 1795, 1796, 1797, 1798, 1799, 1800, 1801, 1802, 1803, 1804, 1805, 1806, 1807, 1808, 1809, 1810, 1811, 1812, 1813, 1814, 1815, 1816, 1817, 1818, 1819, 1820, 1821, 1822, 1823, 1824, 1825, 1826, 1827, 1828, 1829, 1830, 1831, 1832, 1833, 1834, 1835, 1836, 1837, 1838, 1839, 1840, 1841, 1842, 1843, 1844, 1845, 1846, 1847, 1848, 1849, 1850, 1851, 1852, 1853, 1854, 1855, 1856, 1857, 1858, 1859, 1860, 1861, 1862, 1863, 1864, 1865, 1866, 1867, 1868, 1869, 1870, 1871, 1872, 1873, 1874, 1875, 1876, 1877, 1878, 1879, 1880, 1881, 1882, 1883, 1884, 1885, 1886, 1887, 1888, 1889, 1890, 1891, 1892] (by decide +kernel) (by decide +kernel)
set_option maxRecDepth 20000 in
theorem gL_law_X13_plate : GoodIn wsL_law (wsV RL 64 RX13 yX13_plate wsX13_plate) := goodIn_app (goodIn_of _ (by decide +kernel)) ggL_law_X13_plate
set_option maxRecDepth 20000 in
theorem ggL_law_X12_points : GoodIn wsL_law wsX12_points := goodIn_r _ [876, 877, 852, 878, 879, 880, 2, 881, 882, 712, 713, 714, 715, 665, 29, 1965, 1966, 1967, 1968, 1969, 1970, 1971, 1972, 1973, 1974, 1975, 1976, 1977, 1978, 1979, 1980, 1981, 1982, 1769, 1770, 1771, 1772, 1773, 1774, 1775, 1776, 1777, 1778, 1779, 1780, 1781, 1782, 1783, 1784, 1785, 1786, 1787, 1788] (by decide +kernel) (by decide +kernel)
set_option maxRecDepth 20000 in
theorem gL_law_X12_points : GoodIn wsL_law (wsV RL 65 RX12 yX12_points wsX12_points) := goodIn_app (goodIn_of _ (by decide +kernel)) ggL_law_X12_points
set_option maxRecDepth 20000 in
theorem ggL_law_X13_points : GoodIn wsL_law wsX13_points := goodIn_r _ [886, 169, 177, 173, 857, 858, 859, 5, 860, 847, 244, 245, 246, 1789, 1790, 1791, 1792, 1793, 1794, 1795, 1796, 1797, 1798, 1799, 1800, 1801, 1802, 1803, 1804, 1805, 1806, 1807, 1808, 1809, 1810, 1811, 1812, 1813, 1814, 1815, 1816, 1817, 1818, 1819, 1820, 1821, 1822, 1823, 1824, 1825, 1826, 1827, 1828, 1829, 1830, 1831, 1832, 1833, 1834, 1835, 1836, 1837, 1838, 1839, 1840, 1841, 1842, 1843, 1844, 1845, 1846, 1847, 1848, 1849, 1850, 1851, 1852, 1853, 1854, 1855, 1856, 1857, 1858, 1859, 1860, 1861, 1862, 1863, 1864, 1865, 1866, 1867, 1868, 1869, 1870, 1871, 1872, 1873, 1874, 1875, 1876, 1877, 1878, 1879, 1880, 1881, 1882, 1883, 1884, 1885, 1886, 1887, 1888, 1889, 1890, 1891, 1892] (by decide +kernel) (by decide +kernel)
set_option maxRecDepth 20000 in
theorem gL_law_X13_points : GoodIn wsL_law (wsV RL 68 RX13 yX13_points wsX13_points) := goodIn_app (goodIn_of _ (by decide +kernel)) ggL_law_X13_points
set_option maxRecDepth 20000 in
theorem ggL_law_X12_strike : GoodIn wsL_law wsX12_strike := goodIn_r _ [890, 891, 892, 893, 2, 894, 895, 877, 712, 713, 714, 715, 665, 29, 896, 897, 898, 899, 666, 651, 652, 653, 654, 655, 1965, 1966, 1967, 1968, 1969, 1970, 1971, 1972, 1973, 1974, 1975, 1976, 1977, 1978, 1979, 1980, 1981, 1982, 1769, 1770, 1771, 1772, 1773, 1774, 1775, 1776, 1777, 1778, 1779, 1780, 1781, 1782, 1783, 1784, 1785, 1786, 1787, 1788] (by decide +kernel) (by decide +kernel)
set_option maxRecDepth 20000 in
theorem gL_law_X12_strike : GoodIn wsL_law (wsV RL 69 RX12 yX12_strike wsX12_strike) := goodIn_app (goodIn_of _ (by decide +kernel)) ggL_law_X12_strike
set_option maxRecDepth 20000 in
theorem ggL_law_X13_strike : GoodIn wsL_law wsX13_strike := goodIn_r _ [903, 175, 904, 905, 906, 5, 907, 177, 857, 858, 859, 860, 847, 244, 245, 246, 908, 909, 910, 911, 176, 162, 912, 913, 914, 915, 206, 758, 161, 916, 917, 918, 919, 168, 167, 920, 921, 922, 923, 774, 775, 776, 777, 757, 160, 159, 153, 158, 924, 925, 926, 927, 928, 929, 930, 154, 151, 205, 152, 204, 931, 932, 933, 934, 935, 936, 937, 938, 939, 503, 940, 941, 942, 943, 155, 157, 156, 513, 514, 515, 1789, 1790, 1791, 1792, 1793, 1794, 1795, 1796, 1797, 1798, 1799, 1800, 1801, 1802, 1803, 1804, 1805, 1806, 1807, 1808, 1809, 1810, 1811, 1812, 1813, 1814, 1815, 1816, 1817, 1818, 1819, 1820, 1821, 1822, 1823, 1824, 1825, 1826, 1827, 1828, 1829, 1830, 1831, 1832, 1833, 1834, 1835, 1836, 1837, 1838, 1839, 1840, 1841, 1842, 1843, 1844, 1845, 1846, 1847, 1848, 1849, 1850, 1851, 1852, 1853, 1854, 1855, 1856, 1857, 1858, 1859, 1860, 1861, 1862, 1863, 1864, 1865, 1866, 1867, 1868, 1869, 1870, 1871, 1872, 1873, 1874, 1875, 1876, 1877, 1878, 1879, 1880, 1881, 1882, 1883, 1884, 1885, 1886, 1887, 1888, 1889, 1890, 1891, 1892] (by decide +kernel) (by decide +kernel)
set_option maxRecDepth 20000 in
theorem gL_law_X13_strike : GoodIn wsL_law (wsV RL 72 RX13 yX13_strike wsX13_strike) := goodIn_app (goodIn_of _ (by decide +kernel)) ggL_law_X13_strike
set_option maxRecDepth 20000 in
theorem ggL_law_X12_later : GoodIn wsL_law wsX12_later := goodIn_r _ [947, 891, 892, 893, 2, 894, 895, 877, 712, 713, 714, 715, 665, 29, 896, 897, 898, 899, 666, 651, 652, 653, 654, 655, 1965, 1966, 1967, 1968, 1969, 1970, 1971, 1972, 1973, 1974, 1975, 1976, 1977, 1978, 1979, 1980, 1981, 1982, 1769, 1770, 1771, 1772, 1773, 1774, 1775, 1776, 1777, 1778, 1779, 1780, 1781, 1782, 1783, 1784, 1785, 1786, 1787, 1788] (by decide +kernel) (by decide +kernel)
set_option maxRecDepth 20000 in
theorem gL_law_X12_later : GoodIn wsL_law (wsV RL 73 RX12 yX12_later wsX12_later) := goodIn_app (goodIn_of _ (by decide +kernel)) ggL_law_X12_later
set_option maxRecDepth 20000 in
theorem ggL_law_X13_later : GoodIn wsL_law wsX13_later := goodIn_r _ [951, 176, 904, 905, 906, 5, 907, 175, 177, 857, 858, 859, 860, 847, 244, 245, 246, 908, 909, 910, 911, 162, 912, 913, 914, 915, 206, 758, 161, 916, 917, 918, 919, 168, 167, 920, 921, 922, 923, 774, 775, 776, 777, 757, 160, 159, 153, 158, 924, 925, 926, 927, 928, 929, 930, 154, 151, 205, 152, 204, 931, 932, 933, 934, 935, 936, 937, 938, 939, 503, 940, 941, 942, 943, 155, 157, 156, 513, 514, 515, 1789, 1790, 1791, 1792, 1793, 1794, 1795, 1796, 1797, 1798, 1799, 1800, 1801, 1802, 1803, 1804, 1805, 1806, 1807, 1808, 1809, 1810, 1811, 1812, 1813, 1814, 1815, 1816, 1817, 1818, 1819, 1820, 1821, 1822, 1823, 1824, 1825, 1826, 1827, 1828, 1829, 1830, 1831, 1832, 1833, 1834, 1835, 1836, 1837, 1838, 1839, 1840, 1841, 1842, 1843, 1844, 1845, 1846, 1847, 1848, 1849, 1850, 1851, 1852, 1853, 1854, 1855, 1856, 1857, 1858, 1859, 1860, 1861, 1862, 1863, 1864, 1865, 1866, 1867, 1868, 1869, 1870, 1871, 1872, 1873, 1874, 1875, 1876, 1877, 1878, 1879, 1880, 1881, 1882, 1883, 1884, 1885, 1886, 1887, 1888, 1889, 1890, 1891, 1892] (by decide +kernel) (by decide +kernel)
set_option maxRecDepth 20000 in
theorem gL_law_X13_later : GoodIn wsL_law (wsV RL 76 RX13 yX13_later wsX13_later) := goodIn_app (goodIn_of _ (by decide +kernel)) ggL_law_X13_later
set_option maxRecDepth 20000 in
theorem ggL_law_X12_volume : GoodIn wsL_law wsX12_volume := goodIn_r _ [955, 712, 713, 714, 2, 715, 665, 29, 956, 957, 958, 959, 877, 666, 896, 897, 898, 899, 895, 651, 652, 653, 654, 655, 1769, 1770, 1771, 1772, 1773, 1774, 1775, 1776, 1777, 1778, 1779, 1780, 1781, 1782, 1783, 1784, 1785, 1786, 1787, 1788, 1965, 1966, 1967, 1968, 1969, 1970, 1971, 1972, 1973, 1974, 1975, 1976, 1977, 1978, 1979, 1980, 1981, 1982] (by decide +kernel) (by decide +kernel)
set_option maxRecDepth 20000 in
theorem gL_law_X12_volume : GoodIn wsL_law (wsV RL 77 RX12 yX12_volume wsX12_volume) := goodIn_app (goodIn_of _ (by decide +kernel)) ggL_law_X12_volume
set_option maxRecDepth 20000 in
theorem ggL_law_X13_volume : GoodIn wsL_law wsX13_volume := goodIn_r _ [963, 857, 858, 859, 5, 860, 847, 244, 245, 246, 908, 909, 910, 911, 177, 176, 162, 912, 913, 914, 915, 206, 758, 161, 916, 917, 918, 919, 168, 167, 920, 921, 922, 923, 774, 775, 776, 777, 757, 160, 159, 153, 158, 924, 925, 926, 927, 928, 929, 930, 154, 151, 205, 152, 204, 931, 932, 933, 934, 935, 936, 937, 938, 939, 503, 940, 941, 942, 943, 155, 157, 156, 513, 514, 515, 1789, 1790, 1791, 1792, 1793, 1794, 1795, 1796, 1797, 1798, 1799, 1800, 1801, 1802, 1803, 1804, 1805, 1806, 1807, 1808, 1809, 1810, 1811, 1812, 1813, 1814, 1815, 1816, 1817, 1818, 1819, 1820, 1821, 1822, 1823, 1824, 1825, 1826, 1827, 1828, 1829, 1830, 1831, 1832, 1833, 1834, 1835, 1836, 1837, 1838, 1839, 1840, 1841, 1842, 1843, 1844, 1845, 1846, 1847, 1848, 1849, 1850, 1851, 1852, 1853, 1854, 1855, 1856, 1857, 1858, 1859, 1860, 1861, 1862, 1863, 1864, 1865, 1866, 1867, 1868, 1869, 1870, 1871, 1872, 1873, 1874, 1875, 1876, 1877, 1878, 1879, 1880, 1881, 1882, 1883, 1884, 1885, 1886, 1887, 1888, 1889, 1890, 1891, 1892] (by decide +kernel) (by decide +kernel)
set_option maxRecDepth 20000 in
theorem gL_law_X13_volume : GoodIn wsL_law (wsV RL 80 RX13 yX13_volume wsX13_volume) := goodIn_app (goodIn_of _ (by decide +kernel)) ggL_law_X13_volume
set_option maxRecDepth 20000 in
theorem ggL_law_X12_at : GoodIn wsL_law wsX12_at := goodIn_r _ [967, 968, 969, 970, 31, 749, 750, 751, 2, 752, 25, 647, 648, 649, 650, 971, 972, 973, 974, 23, 646, 665, 877, 667, 668, 669, 22, 670, 671, 672, 673, 82, 674, 675, 676, 677, 678, 18, 679, 680, 72, 681, 682, 683, 684, 660, 73, 685, 686, 687, 688, 75, 74, 689, 690, 691, 601, 692, 693, 694, 695, 696, 697, 698, 699, 700, 77, 76, 701, 702, 703, 704, 705, 706, 707, 92, 708, 709, 710, 711, 712, 713, 714, 715, 29, 956, 957, 958, 959, 666, 896, 897, 898, 899, 895, 651, 652, 653, 654, 655, 722, 723, 724, 725, 726, 727, 728, 729, 730, 731, 732, 733, 734, 735, 736, 737, 975, 976, 977, 978, 979, 623, 624, 625, 802, 980, 981, 982, 983, 984, 985, 986, 987, 988, 989, 739, 740, 277, 741, 742, 990, 991, 992, 993, 1922, 1923, 1924, 1925, 1926, 1927, 1928, 1769, 1770, 1771, 1772, 1773, 1774, 1775, 1776, 1777, 1778, 1779, 1780, 1781, 1782, 1783, 1784, 1785, 1786, 1787, 1788, 1965, 1966, 1967, 1968, 1969, 1970, 1971, 1972, 1973, 1974, 1975, 1976, 1977, 1978, 1979, 1980, 1981, 1982, 1916, 1917, 1918, 1919, 1920, 1921, 1908, 1909, 1910, 1911, 1912, 1913, 1914, 1915, 1961, 1962, 1963, 1964] (by decide +kernel) (by decide +kernel)
set_option maxRecDepth 20000 in
theorem gL_law_X12_at : GoodIn wsL_law (wsV RL 81 RX12 yX12_at wsX12_at) := goodIn_app (goodIn_of _ (by decide +kernel)) ggL_law_X12_at
set_option maxRecDepth 20000 in
theorem ggL_law_X13_at : GoodIn wsL_law wsX13_at := goodIn_r _ [997, 209, 759, 760, 5, 761, 244, 245, 246, 998, 999, 1000, 1001, 162, 164, 165, 847, 908, 909, 910, 911, 177, 176, 912, 913, 914, 915, 206, 758, 161, 916, 917, 918, 919, 168, 167, 920, 921, 922, 923, 774, 775, 776, 777, 757, 160, 159, 153, 158, 924, 925, 926, 927, 928, 929, 930, 154, 151, 205, 152, 204, 931, 932, 933, 934, 935, 936, 937, 938, 939, 503, 940, 941, 942, 943, 155, 157, 156, 513, 514, 515, 1002, 1003, 1004, 1005, 1006, 1007, 1008, 1009, 207, 1789, 1790, 1791, 1792, 1793, 1794, 1795, 1796, 1797, 1798, 1799, 1800, 1801, 1802, 1803, 1804, 1805, 1806, 1807, 1808, 1809, 1810, 1811, 1812, 1813, 1814, 1815, 1816, 1817, 1818, 1819, 1820, 1821, 1822, 1823, 1824, 1825, 1826, 1827, 1828, 1829, 1830, 1831, 1832, 1833, 1834, 1835, 1836, 1837, 1838, 1839, 1840, 1841, 1842, 1843, 1844, 1845, 1846, 1847, 1848, 1849, 1850, 1851, 1852, 1853, 1854, 1855, 1856, 1857, 1858, 1859, 1860, 1861, 1862, 1863, 1864, 1865, 1866, 1867, 1868, 1869, 1870, 1871, 1872, 1873, 1874, 1875, 1876, 1877, 1878, 1879, 1880, 1881, 1882, 1883, 1884, 1885, 1886, 1887, 1888, 1889, 1890, 1891, 1892] (by decide +kernel) (by decide +kernel)
set_option maxRecDepth 20000 in
theorem gL_law_X13_at : GoodIn wsL_law (wsV RL 84 RX13 yX13_at wsX13_at) := goodIn_app (goodIn_of _ (by decide +kernel)) ggL_law_X13_at
set_option maxRecDepth 20000 in
theorem ggL_law_X12_why : GoodIn wsL_law wsX12_why := goodIn_r _ [1013, 23, 646, 712, 713, 714, 2, 715, 665, 29, 667, 668, 669, 22, 670, 671, 672, 673, 82, 674, 675, 676, 677, 678, 18, 679, 680, 72, 681, 682, 683, 684, 660, 73, 685, 686, 687, 688, 75, 74, 689, 690, 691, 601, 692, 693, 694, 695, 696, 697, 698, 699, 700, 77, 76, 701, 702, 703, 704, 705, 706, 707, 92, 708, 709, 710, 711, 722, 723, 724, 725, 726, 727, 728, 729, 730, 731, 732, 733, 734, 735, 736, 737, 1014, 986, 987, 988, 989, 739, 740, 277, 741, 742, 990, 991, 992, 993, 980, 981, 982, 983, 984, 985, 1015, 1016, 1017, 1018, 1769, 1770, 1771, 1772, 1773, 1774, 1775, 1776, 1777, 1778, 1779, 1780, 1781, 1782, 1783, 1784, 1785, 1786, 1787, 1788, 1916, 1917, 1918, 1919, 1920, 1921, 1908, 1909, 1910, 1911, 1912, 1913, 1914, 1915, 1961, 1962, 1963, 1964, 1965, 1966, 1967, 1968, 1969, 1970, 1971, 1972, 1973, 1974, 1975, 1976, 1977, 1978, 1979, 1980, 1981, 1982] (by decide +kernel) (by decide +kernel)
set_option maxRecDepth 20000 in
theorem gL_law_X12_why : GoodIn wsL_law (wsV RL 85 RX12 yX12_why wsX12_why) := goodIn_app (goodIn_of _ (by decide +kernel)) ggL_law_X12_why
set_option maxRecDepth 20000 in
theorem ggL_law_X13_why : GoodIn wsL_law wsX13_why := goodIn_r _ [1022, 857, 858, 859, 5, 860, 847, 244, 245, 246, 1006, 1007, 1008, 1009, 206, 207, 916, 917, 918, 919, 758, 168, 167, 920, 921, 922, 923, 774, 775, 776, 777, 757, 160, 159, 153, 158, 924, 925, 926, 927, 928, 929, 930, 154, 151, 205, 152, 204, 931, 932, 933, 934, 935, 936, 937, 938, 939, 503, 940, 941, 942, 943, 155, 157, 156, 513, 514, 515, 1002, 1003, 1004, 1005, 1789, 1790, 1791, 1792, 1793, 1794, 1795, 1796, 1797, 1798, 1799, 1800, 1801, 1802, 1803, 1804, 1805, 1806, 1807, 1808, 1809, 1810, 1811, 1812, 1813, 1814, 1815, 1816, 1817, 1818, 1819, 1820, 1821, 1822, 1823, 1824, 1825, 1826, 1827, 1828, 1829, 1830, 1831, 1832, 1833, 1834, 1835, 1836, 1837, 1838, 1839, 1840, 1841, 1842, 1843, 1844, 1845, 1846, 1847, 1848, 1849, 1850, 1851, 1852, 1853, 1854, 1855, 1856, 1857, 1858, 1859, 1860, 1861, 1862, 1863, 1864, 1865, 1866, 1867, 1868, 1869, 1870, 1871, 1872, 1873, 1874, 1875, 1876, 1877, 1878, 1879, 1880, 1881, 1882, 1883, 1884, 1885, 1886, 1887, 1888, 1889, 1890, 1891, 1892] (by decide +kernel) (by decide +kernel)
set_option maxRecDepth 20000 in
theorem gL_law_X13_why : GoodIn wsL_law (wsV RL 88 RX13 yX13_why wsX13_why) := goodIn_app (goodIn_of _ (by decide +kernel)) ggL_law_X13_why
set_option maxRecDepth 20000 in
theorem ggL_law_X12_hand : GoodIn wsL_law wsX12_hand := goodIn_r _ [1026, 1027, 1028, 33, 32, 1029, 1030, 1031, 1032, 1033, 1034, 10, 11, 1035, 1036, 1037, 1038, 1769, 1770, 1771, 1772, 1773, 1774, 1775, 1776, 1777, 1778, 1779, 1780, 1781, 1782, 1783, 1784, 1785, 1786, 1787, 1788, 1983, 1984, 1985, 1986, 1987, 1988] (by decide +kernel) (by decide +kernel)
set_option maxRecDepth 20000 in
theorem gL_law_X12_hand : GoodIn wsL_law (wsV RL 89 RX12 yX12_hand wsX12_hand) := goodIn_app (goodIn_of _ (by decide +kernel)) ggL_law_X12_hand
set_option maxRecDepth 20000 in
theorem ggL_law_X13_hand : GoodIn wsL_law wsX13_hand := goodIn_r _ [1042, 1043, 1044, 179, 180, 181, 244, 245, 5, 246, 1789, 1790, 1791, 1792, 1793, 1794, 1795, 1796, 1797, 1798, 1799, 1800, 1801, 1802, 1803, 1804, 1805, 1806, 1807, 1808, 1809, 1810, 1811, 1812, 1813, 1814, 1815, 1816, 1817, 1818, 1819, 1820, 1821, 1822, 1823, 1824, 1825, 1826, 1827, 1828, 1829, 1830, 1831, 1832, 1833, 1834, 1835, 1836, 1837, 1838, 1839, 1840, 1841, 1842, 1843, 1844, 1845, 1846, 1847, 1848, 1849, 1850, 1851, 1852, 1853, 1854, 1855, 1856, 1857, 1858, 1859, 1860, 1861, 1862, 1863, 1864, 1865, 1866, 1867, 1868, 1869, 1870, 1871, 1872, 1873, 1874, 1875, 1876, 1877, 1878, 1879, 1880, 1881, 1882, 1883, 1884, 1885, 1886, 1887, 1888, 1889, 1890, 1891, 1892] (by decide +kernel) (by decide +kernel)
set_option maxRecDepth 20000 in
theorem gL_law_X13_hand : GoodIn wsL_law (wsV RL 92 RX13 yX13_hand wsX13_hand) := goodIn_app (goodIn_of _ (by decide +kernel)) ggL_law_X13_hand
set_option maxRecDepth 20000 in
theorem ggL_law_X12_enemies : GoodIn wsL_law wsX12_enemies := goodIn_r _ [1048, 1049, 1050, 1051, 1052, 2, 1053, 1028, 33, 1983, 1984, 1985, 1986, 1987, 1988, 1769, 1770, 1771, 1772, 1773, 1774, 1775, 1776, 1777, 1778, 1779, 1780, 1781, 1782, 1783, 1784, 1785, 1786, 1787, 1788] (by decide +kernel) (by decide +kernel)
set_option maxRecDepth 20000 in
theorem gL_law_X12_enemies : GoodIn wsL_law (wsV RL 93 RX12 yX12_enemies wsX12_enemies) := goodIn_app (goodIn_of _ (by decide +kernel)) ggL_law_X12_enemies
set_option maxRecDepth 20000 in
theorem ggL_law_X13_enemies : GoodIn wsL_law wsX13_enemies := goodIn_r _ [1057, 183, 1058, 1059, 1060, 5, 1061, 1044, 244, 245, 246, 1789, 1790, 1791, 1792, 1793, 1794, 1795, 1796, 1797, 1798, 1799, 1800, 1801, 1802, 1803, 1804, 1805, 1806, 1807, 1808, 1809, 1810, 1811, 1812, 1813, 1814, 1815, 1816, 1817, 1818, 1819, 1820, 1821, 1822, 1823, 1824, 1825, 1826, 1827, 1828, 1829, 1830, 1831, 1832, 1833, 1834, 1835, 1836, 1837, 1838, 1839, 1840, 1841, 1842, 1843, 1844, 1845, 1846, 1847, 1848, 1849, 1850, 1851, 1852, 1853, 1854, 1855, 1856, 1857, 1858, 1859, 1860, 1861, 1862, 1863, 1864, 1865, 1866, 1867, 1868, 1869, 1870, 1871, 1872, 1873, 1874, 1875, 1876, 1877, 1878, 1879, 1880, 1881, 1882, 1883, 1884, 1885, 1886, 1887, 1888, 1889, 1890, 1891, 1892] (by decide +kernel) (by decide +kernel)
set_option maxRecDepth 20000 in
theorem gL_law_X13_enemies : GoodIn wsL_law (wsV RL 96 RX13 yX13_enemies wsX13_enemies) := goodIn_app (goodIn_of _ (by decide +kernel)) ggL_law_X13_enemies
set_option maxRecDepth 20000 in
theorem ggL_law_X12_give : GoodIn wsL_law wsX12_give := goodIn_r _ [1065, 1066, 878, 879, 880, 2, 881, 882, 712, 713, 714, 715, 665, 29, 1067, 1068, 1069, 277, 1070, 1071, 1072, 1073, 1074, 1075, 1076, 877, 1077, 800, 1049, 1078, 1079, 1080, 1081, 1082, 1083, 1050, 1051, 1052, 1053, 1028, 33, 1084, 1085, 1086, 1087, 895, 1088, 1089, 1090, 1091, 19, 646, 956, 957, 958, 959, 666, 896, 897, 898, 899, 651, 652, 653, 654, 655, 1092, 1093, 1094, 1095, 801, 1096, 1097, 802, 1098, 1099, 1100, 1101, 1102, 18, 1103, 76, 1104, 1105, 1106, 1107, 1108, 1109, 1110, 1111, 1112, 1113, 1114, 852, 1115, 1116, 1117, 1118, 1119, 1120, 1121, 1122, 827, 825, 1123, 1124, 677, 678, 679, 680, 72, 681, 682, 683, 684, 660, 73, 685, 686, 687, 688, 75, 74, 689, 690, 691, 601, 692, 693, 694, 695, 696, 697, 698, 699, 700, 77, 701, 702, 703, 704, 705, 706, 707, 92, 708, 709, 710, 711, 1965, 1966, 1967, 1968, 1969, 1970, 1971, 1972, 1973, 1974, 1975, 1976, 1977, 1978, 1979, 1980, 1981, 1982, 1769, 1770, 1771, 1772, 1773, 1774, 1775, 1776, 1777, 1778, 1779, 1780, 1781, 1782, 1783, 1784, 1785, 1786, 1787, 1788, 1983, 1984, 1985, 1986, 1987, 1988, 1908, 1909, 1910, 1911, 1912, 1913, 1914, 1915, 1961, 1962, 1963, 1964] (by decide +kernel) (by decide +kernel)
set_option maxRecDepth 20000 in
theorem gL_law_X12_give : GoodIn wsL_law (wsV RL 97 RX12 yX12_give wsX12_give) := goodIn_app (goodIn_of _ (by decide +kernel)) ggL_law_X12_give
set_option maxRecDepth 20000 in
theorem ggL_law_X13_give : GoodIn wsL_law wsX13_give := goodIn_r _ [1128, 174, 1129, 1130, 1131, 5, 1132, 175, 177, 182, 179, 171, 1133, 184, 183, 185, 758, 1134, 1135, 1136, 1137, 169, 857, 858, 859, 860, 847, 244, 245, 246, 1138, 1139, 1140, 1141, 172, 1142, 1143, 1144, 1145, 1058, 1059, 1060, 1061, 1044, 1146, 1147, 1148, 1149, 204, 173, 180, 181, 1150, 1151, 1152, 1153, 186, 908, 909, 910, 911, 176, 162, 912, 913, 914, 915, 206, 161, 916, 917, 918, 919, 168, 167, 920, 921, 922, 923, 774, 775, 776, 777, 757, 160, 159, 153, 158, 924, 925, 926, 927, 928, 929, 930, 154, 151, 205, 152, 931, 932, 933, 934, 935, 936, 937, 938, 939, 503, 940, 941, 942, 943, 155, 157, 156, 513, 514, 515, 1154, 1155, 1156, 1157, 1789, 1790, 1791, 1792, 1793, 1794, 1795, 1796, 1797, 1798, 1799, 1800, 1801, 1802, 1803, 1804, 1805, 1806, 1807, 1808, 1809, 1810, 1811, 1812, 1813, 1814, 1815, 1816, 1817, 1818, 1819, 1820, 1821, 1822, 1823, 1824, 1825, 1826, 1827, 1828, 1829, 1830, 1831, 1832, 1833, 1834, 1835, 1836, 1837, 1838, 1839, 1840, 1841, 1842, 1843, 1844, 1845, 1846, 1847, 1848, 1849, 1850, 1851, 1852, 1853, 1854, 1855, 1856, 1857, 1858, 1859, 1860, 1861, 1862, 1863, 1864, 1865, 1866, 1867, 1868, 1869, 1870, 1871, 1872, 1873, 1874, 1875, 1876, 1877, 1878, 1879, 1880, 1881, 1882, 1883, 1884, 1885, 1886, 1887, 1888, 1889, 1890, 1891, 1892] (by decide +kernel) (by decide +kernel)
set_option maxRecDepth 20000 in
theorem gL_law_X13_give : GoodIn wsL_law (wsV RL 100 RX13 yX13_give wsX13_give) := goodIn_app (goodIn_of _ (by decide +kernel)) ggL_law_X13_give
set_option maxRecDepth 20000 in
theorem ggL_law_X12_line : GoodIn wsL_law wsX12_line := goodIn_r _ [1161, 1066, 1162, 34, 1163, 1164, 799, 1165, 311, 92, 312, 1166, 1167, 1097, 1078, 1096, 1168, 35, 878, 879, 880, 2, 881, 882, 712, 713, 714, 715, 665, 29, 1067, 1068, 1069, 277, 1070, 1071, 1072, 1084, 1085, 1086, 1087, 895, 896, 897, 898, 899, 877, 666, 651, 652, 653, 654, 655, 1079, 1080, 1081, 1082, 1083, 1050, 1051, 1052, 1053, 1028, 33, 1169, 1170, 1171, 1172, 39, 646, 1173, 1174, 1175, 38, 1176, 100, 1177, 1178, 1179, 1180, 99, 102, 103, 1181, 1182, 1183, 1184, 1185, 1186, 1187, 1188, 10, 11, 1189, 1190, 1191, 1192, 1193, 1194, 1195, 1196, 1197, 1198, 1199, 1200, 1201, 1202, 1203, 1088, 1089, 1090, 1091, 19, 956, 957, 958, 959, 1092, 1093, 1094, 1095, 801, 802, 800, 1098, 1099, 1100, 1101, 1102, 18, 1103, 76, 1104, 1105, 1106, 1107, 1108, 1109, 1110, 1111, 1112, 1113, 1114, 852, 1115, 1116, 1117, 1118, 1119, 1120, 1121, 1122, 827, 825, 1123, 1124, 677, 678, 679, 680, 72, 681, 682, 683, 684, 660, 73, 685, 686, 687, 688, 75, 74, 689, 690, 691, 601, 692, 693, 694, 695, 696, 697, 698, 699, 700, 77, 701, 702, 703, 704, 705, 706, 707, 708, 709, 710, 711, 1965, 1966, 1967, 1968, 1969, 1970, 1971, 1972, 1973, 1974, 1975, 1976, 1977, 1978, 1979, 1980, 1981, 1982, 1769, 1770, 1771, 1772, 1773, 1774, 1775, 1776, 1777, 1778, 1779, 1780, 1781, 1782, 1783, 1784, 1785, 1786, 1787, 1788, 1989, 1990, 1991, 1992, 1993, 1994, 1995, 1996, 1997, 1983, 1984, 1985, 1986, 1987, 1988, 1929, 1930, 1931, 1932, 1933, 1934, 1935, 1936, 1937, 1938, 1939, 1940, 1908, 1909, 1910, 1911, 1912, 1913, 1914, 1915, 1961, 1962, 1963, 1964] (by decide +kernel) (by decide +kernel)
set_option maxRecDepth 20000 in
theorem gL_law_X12_line : GoodIn wsL_law (wsV RL 101 RX12 yX12_line wsX12_line) := goodIn_app (goodIn_of _ (by decide +kernel)) ggL_law_X12_line
set_option maxRecDepth 20000 in
theorem ggL_law_X13_line : GoodIn wsL_law wsX13_line := goodIn_r _ [1207, 174, 182, 175, 1133, 758, 170, 184, 185, 186, 187, 188, 189, 190, 191, 1134, 1135, 1136, 5, 1137, 169, 857, 858, 859, 860, 847, 244, 245, 246, 1138, 1139, 1140, 1141, 172, 1142, 1143, 1144, 1145, 908, 909, 910, 911, 177, 176, 162, 912, 913, 914, 915, 206, 161, 916, 917, 918, 919, 168, 167, 920, 921, 922, 923, 774, 775, 776, 777, 757, 160, 159, 153, 158, 924, 925, 926, 927, 928, 929, 930, 154, 151, 205, 152, 204, 931, 932, 933, 934, 935, 936, 937, 938, 939, 503, 940, 941, 942, 943, 155, 157, 156, 513, 514, 515, 1208, 1209, 1210, 1211, 194, 1212, 1213, 1214, 1215, 1216, 193, 196, 1146, 1147, 1148, 1149, 173, 171, 180, 181, 1150, 1151, 1152, 1153, 1154, 1155, 1156, 1157, 1789, 1790, 1791, 1792, 1793, 1794, 1795, 1796, 1797, 1798, 1799, 1800, 1801, 1802, 1803, 1804, 1805, 1806, 1807, 1808, 1809, 1810, 1811, 1812, 1813, 1814, 1815, 1816, 1817, 1818, 1819, 1820, 1821, 1822, 1823, 1824, 1825, 1826, 1827, 1828, 1829, 1830, 1831, 1832, 1833, 1834, 1835, 1836, 1837, 1838, 1839, 1840, 1841, 1842, 1843, 1844, 1845, 1846, 1847, 1848, 1849, 1850, 1851, 1852, 1853, 1854, 1855, 1856, 1857, 1858, 1859, 1860, 1861, 1862, 1863, 1864, 1865, 1866, 1867, 1868, 1869, 1870, 1871, 1872, 1873, 1874, 1875, 1876, 1877, 1878, 1879, 1880, 1881, 1882, 1883, 1884, 1885, 1886, 1887, 1888, 1889, 1890, 1891, 1892] (by decide +kernel) (by decide +kernel)
set_option maxRecDepth 20000 in
theorem gL_law_X13_line : GoodIn wsL_law (wsV RL 104 RX13 yX13_line wsX13_line) := goodIn_app (goodIn_of _ (by decide +kernel)) ggL_law_X13_line
set_option maxRecDepth 20000 in
theorem ggL_law_X12_die : GoodIn wsL_law wsX12_die := goodIn_r _ [1220, 1083, 1079, 1080, 1081, 2, 1082, 1050, 1051, 1052, 1053, 1028, 33, 1115, 1116, 1117, 1118, 665, 712, 713, 714, 715, 29, 1119, 1120, 1121, 277, 1122, 827, 825, 1071, 1072, 1123, 1983, 1984, 1985, 1986, 1987, 1988, 1769, 1770, 1771, 1772, 1773, 1774, 1775, 1776, 1777, 1778, 1779, 1780, 1781, 1782, 1783, 1784, 1785, 1786, 1787, 1788, 1965, 1966, 1967, 1968, 1969, 1970, 1971, 1972, 1973, 1974, 1975, 1976, 1977, 1978, 1979, 1980, 1981, 1982] (by decide +kernel) (by decide +kernel)
set_option maxRecDepth 20000 in
theorem gL_law_X12_die : GoodIn wsL_law (wsV RL 105 RX12 yX12_die wsX12_die) := goodIn_app (goodIn_of _ (by decide +kernel)) ggL_law_X12_die
set_option maxRecDepth 20000 in
theorem ggL_law_X13_die : GoodIn wsL_law wsX13_die := goodIn_r _ [1224, 182, 847, 174, 1058, 1059, 1060, 5, 1061, 1044, 244, 245, 246, 1225, 1226, 1227, 1228, 169, 175, 1138, 1139, 1140, 1141, 172, 1142, 1143, 1144, 1145, 1133, 184, 1789, 1790, 1791, 1792, 1793, 1794, 1795, 1796, 1797, 1798, 1799, 1800, 1801, 1802, 1803, 1804, 1805, 1806, 1807, 1808, 1809, 1810, 1811, 1812, 1813, 1814, 1815, 1816, 1817, 1818, 1819, 1820, 1821, 1822, 1823, 1824, 1825, 1826, 1827, 1828, 1829, 1830, 1831, 1832, 1833, 1834, 1835, 1836, 1837, 1838, 1839, 1840, 1841, 1842, 1843, 1844, 1845, 1846, 1847, 1848, 1849, 1850, 1851, 1852, 1853, 1854, 1855, 1856, 1857, 1858, 1859, 1860, 1861, 1862, 1863, 1864, 1865, 1866, 1867, 1868, 1869, 1870, 1871, 1872, 1873, 1874, 1875, 1876, 1877, 1878, 1879, 1880, 1881, 1882, 1883, 1884, 1885, 1886, 1887, 1888, 1889, 1890, 1891, 1892] (by decide +kernel) (by decide +kernel)
set_option maxRecDepth 20000 in
theorem gL_law_X13_die : GoodIn wsL_law (wsV RL 108 RX13 yX13_die wsX13_die) := goodIn_app (goodIn_of _ (by decide +kernel)) ggL_law_X13_die
set_option maxRecDepth 20000 in
theorem ggL_law_X12_takers : GoodIn wsL_law wsX12_takers := goodIn_r _ [1232, 1028, 712, 713, 714, 2, 715, 665, 29, 1233, 1234, 1235, 1236, 1066, 1083, 1050, 1051, 1052, 1053, 33, 1119, 1120, 1121, 277, 1122, 827, 825, 1071, 1072, 1123, 1073, 1074, 1075, 1076, 877, 1077, 800, 1049, 1078, 1079, 1080, 1081, 1082, 1084, 1085, 1086, 1087, 895, 1088, 1089, 1090, 1091, 19, 646, 956, 957, 958, 959, 666, 896, 897, 898, 899, 651, 652, 653, 654, 655, 1092, 1093, 1094, 1095, 801, 1096, 1097, 802, 1098, 1099, 1100, 1101, 1102, 18, 1103, 76, 1104, 1105, 1106, 1107, 1108, 1109, 1110, 1111, 1112, 1113, 1114, 882, 852, 1115, 1116, 1117, 1118, 1124, 677, 678, 679, 680, 72, 681, 682, 683, 684, 660, 73, 685, 686, 687, 688, 75, 74, 689, 690, 691, 601, 692, 693, 694, 695, 696, 697, 698, 699, 700, 77, 701, 702, 703, 704, 705, 706, 707, 92, 708, 709, 710, 711, 1769, 1770, 1771, 1772, 1773, 1774, 1775, 1776, 1777, 1778, 1779, 1780, 1781, 1782, 1783, 1784, 1785, 1786, 1787, 1788, 1965, 1966, 1967, 1968, 1969, 1970, 1971, 1972, 1973, 1974, 1975, 1976, 1977, 1978, 1979, 1980, 1981, 1982, 1983, 1984, 1985, 1986, 1987, 1988, 1908, 1909, 1910, 1911, 1912, 1913, 1914, 1915, 1961, 1962, 1963, 1964] (by decide +kernel) (by decide +kernel)
set_option maxRecDepth 20000 in
theorem gL_law_X12_takers : GoodIn wsL_law (wsV RL 109 RX12 yX12_takers wsX12_takers) := goodIn_app (goodIn_of _ (by decide +kernel)) ggL_law_X12_takers
set_option maxRecDepth 20000 in
theorem ggL_law_X13_takers : GoodIn wsL_law wsX13_takers := goodIn_r _ [1240, 1044, 857, 858, 859, 5, 860, 847, 244, 245, 246, 1225, 1226, 1227, 1228, 169, 174, 182, 175, 1138, 1139, 1140, 1141, 172, 1142, 1143, 1144, 1145, 1133, 184, 1129, 1130, 1131, 1132, 177, 179, 171, 183, 185, 758, 1134, 1135, 1136, 1137, 1058, 1059, 1060, 1061, 1146, 1147, 1148, 1149, 204, 173, 180, 181, 1150, 1151, 1152, 1153, 186, 908, 909, 910, 911, 176, 162, 912, 913, 914, 915, 206, 161, 916, 917, 918, 919, 168, 167, 920, 921, 922, 923, 774, 775, 776, 777, 757, 160, 159, 153, 158, 924, 925, 926, 927, 928, 929, 930, 154, 151, 205, 152, 931, 932, 933, 934, 935, 936, 937, 938, 939, 503, 940, 941, 942, 943, 155, 157, 156, 513, 514, 515, 1154, 1155, 1156, 1157, 1789, 1790, 1791, 1792, 1793, 1794, 1795, 1796, 1797, 1798, 1799, 1800, 1801, 1802, 1803, 1804, 1805, 1806, 1807, 1808, 1809, 1810, 1811, 1812, 1813, 1814, 1815, 1816, 1817, 1818, 1819, 1820, 1821, 1822, 1823, 1824, 1825, 1826, 1827, 1828, 1829, 1830, 1831, 1832, 1833, 1834, 1835, 1836, 1837, 1838, 1839, 1840, 1841, 1842, 1843, 1844, 1845, 1846, 1847, 1848, 1849, 1850, 1851, 1852, 1853, 1854, 1855, 1856, 1857, 1858, 1859, 1860, 1861, 1862, 1863, 1864, 1865, 1866, 1867, 1868, 1869, 1870, 1871, 1872, 1873, 1874, 1875, 1876, 1877, 1878, 1879, 1880, 1881, 1882, 1883, 1884, 1885, 1886, 1887, 1888, 1889, 1890, 1891, 1892] (by decide +kernel) (by decide +kernel)
set_option maxRecDepth 20000 in
theorem gL_law_X13_takers : GoodIn wsL_law (wsV RL 112 RX13 yX13_takers wsX13_takers) := goodIn_app (goodIn_of _ (by decide +kernel)) ggL_law_X13_takers
set_option maxRecDepth 20000 in
theorem ggL_law_X12_tell : GoodIn wsL_law wsX12_tell := goodIn_r _ [1244, 39, 646, 1245, 1246, 1247, 38, 1248, 1249, 100, 101, 102, 103, 99, 1769, 1770, 1771, 1772, 1773, 1774, 1775, 1776, 1777, 1778, 1779, 1780, 1781, 1782, 1783, 1784, 1785, 1786, 1787, 1788, 1929, 1930, 1931, 1932, 1933, 1934, 1935, 1936, 1937, 1938, 1939, 1940] (by decide +kernel) (by decide +kernel)
set_option maxRecDepth 20000 in
theorem gL_law_X12_tell : GoodIn wsL_law (wsV RL 113 RX12 yX12_tell wsX12_tell) := goodIn_app (goodIn_of _ (by decide +kernel)) ggL_law_X12_tell
set_option maxRecDepth 20000 in
theorem ggL_law_X13_tell : GoodIn wsL_law wsX13_tell := goodIn_r _ [1253, 1216, 193, 194, 195, 196, 758, 244, 245, 5, 246, 1789, 1790, 1791, 1792, 1793, 1794, 1795, 1796, 1797, 1798, 1799, 1800, 1801, 1802, 1803, 1804, 1805, 1806, 1807, 1808, 1809, 1810, 1811, 1812, 1813, 1814, 1815, 1816, 1817, 1818, 1819, 1820, 1821, 1822, 1823, 1824, 1825, 1826, 1827, 1828, 1829, 1830, 1831, 1832, 1833, 1834, 1835, 1836, 1837, 1838, 1839, 1840, 1841, 1842, 1843, 1844, 1845, 1846, 1847, 1848, 1849, 1850, 1851, 1852, 1853, 1854, 1855, 1856, 1857, 1858, 1859, 1860, 1861, 1862, 1863, 1864, 1865, 1866, 1867, 1868, 1869, 1870, 1871, 1872, 1873, 1874, 1875, 1876, 1877, 1878, 1879, 1880, 1881, 1882, 1883, 1884, 1885, 1886, 1887, 1888, 1889, 1890, 1891, 1892] (by decide +kernel) (by decide +kernel)
set_option maxRecDepth 20000 in
theorem gL_law_X13_tell : GoodIn wsL_law (wsV RL 117 RX13 yX13_tell wsX13_tell) := goodIn_app (goodIn_of _ (by decide +kernel)) ggL_law_X13_tell
set_option maxRecDepth 20000 in
theorem ggL_law_X12_known : GoodIn wsL_law wsX12_known := goodIn_r _ [1257, 39, 1173, 1174, 1175, 38, 1176, 100, 1177, 1178, 1179, 1180, 99, 102, 103, 1258, 1259, 1260, 1261, 101, 1769, 1770, 1771, 1772, 1773, 1774, 1775, 1776, 1777, 1778, 1779, 1780, 1781, 1782, 1783, 1784, 1785, 1786, 1787, 1788, 1929, 1930, 1931, 1932, 1933, 1934, 1935, 1936, 1937, 1938, 1939, 1940] (by decide +kernel) (by decide +kernel)
set_option maxRecDepth 20000 in
theorem gL_law_X12_known : GoodIn wsL_law (wsV RL 118 RX12 yX12_known wsX12_known) := goodIn_app (goodIn_of _ (by decide +kernel)) ggL_law_X12_known
set_option maxRecDepth 20000 in
theorem ggL_law_X13_known : GoodIn wsL_law wsX13_known := goodIn_r _ [1265, 194, 195, 244, 245, 5, 246, 1212, 1213, 1214, 1215, 1216, 193, 196, 1789, 1790, 1791, 1792, 1793, 1794, 1795, 1796, 1797, 1798, 1799, 1800, 1801, 1802, 1803, 1804, 1805, 1806, 1807, 1808, 1809, 1810, 1811, 1812, 1813, 1814, 1815, 1816, 1817, 1818, 1819, 1820, 1821, 1822, 1823, 1824, 1825, 1826, 1827, 1828, 1829, 1830, 1831, 1832, 1833, 1834, 1835, 1836, 1837, 1838, 1839, 1840, 1841, 1842, 1843, 1844, 1845, 1846, 1847, 1848, 1849, 1850, 1851, 1852, 1853, 1854, 1855, 1856, 1857, 1858, 1859, 1860, 1861, 1862, 1863, 1864, 1865, 1866, 1867, 1868, 1869, 1870, 1871, 1872, 1873, 1874, 1875, 1876, 1877, 1878, 1879, 1880, 1881, 1882, 1883, 1884, 1885, 1886, 1887, 1888, 1889, 1890, 1891, 1892] (by decide +kernel) (by decide +kernel)
set_option maxRecDepth 20000 in
theorem gL_law_X13_known : GoodIn wsL_law (wsV RL 121 RX13 yX13_known wsX13_known) := goodIn_app (goodIn_of _ (by decide +kernel)) ggL_law_X13_known
set_option maxRecDepth 20000 in
theorem ggL_law_X12_stale : GoodIn wsL_law wsX12_stale := goodIn_r _ [1269, 1181, 1182, 1183, 2, 1184, 1162, 35, 1270, 1271, 1272, 1273, 1201, 39, 1167, 1202, 1173, 1174, 1175, 38, 1176, 100, 1177, 1178, 1179, 1180, 99, 102, 103, 1274, 1275, 1276, 1277, 1278, 104, 107, 105, 106, 1769, 1770, 1771, 1772, 1773, 1774, 1775, 1776, 1777, 1778, 1779, 1780, 1781, 1782, 1783, 1784, 1785, 1786, 1787, 1788, 1989, 1990, 1991, 1992, 1993, 1994, 1995, 1996, 1997, 1929, 1930, 1931, 1932, 1933, 1934, 1935, 1936, 1937, 1938, 1939, 1940] (by decide +kernel) (by decide +kernel)
set_option maxRecDepth 20000 in
theorem gL_law_X12_stale : GoodIn wsL_law (wsV RL 122 RX12 yX12_stale wsX12_stale) := goodIn_app (goodIn_of _ (by decide +kernel)) ggL_law_X12_stale
set_option maxRecDepth 20000 in
theorem ggL_law_X13_stale : GoodIn wsL_law wsX13_stale := goodIn_r _ [1282, 1283, 1284, 1285, 5, 1286, 1133, 244, 245, 246, 1287, 1288, 1289, 1290, 186, 187, 1291, 1292, 1293, 1294, 188, 1295, 197, 200, 198, 1296, 199, 1208, 1209, 1210, 1211, 194, 1212, 1213, 1214, 1215, 1216, 193, 196, 1789, 1790, 1791, 1792, 1793, 1794, 1795, 1796, 1797, 1798, 1799, 1800, 1801, 1802, 1803, 1804, 1805, 1806, 1807, 1808, 1809, 1810, 1811, 1812, 1813, 1814, 1815, 1816, 1817, 1818, 1819, 1820, 1821, 1822, 1823, 1824, 1825, 1826, 1827, 1828, 1829, 1830, 1831, 1832, 1833, 1834, 1835, 1836, 1837, 1838, 1839, 1840, 1841, 1842, 1843, 1844, 1845, 1846, 1847, 1848, 1849, 1850, 1851, 1852, 1853, 1854, 1855, 1856, 1857, 1858, 1859, 1860, 1861, 1862, 1863, 1864, 1865, 1866, 1867, 1868, 1869, 1870, 1871, 1872, 1873, 1874, 1875, 1876, 1877, 1878, 1879, 1880, 1881, 1882, 1883, 1884, 1885, 1886, 1887, 1888, 1889, 1890, 1891, 1892] (by decide +kernel) (by decide +kernel)
set_option maxRecDepth 20000 in
theorem gL_law_X13_stale : GoodIn wsL_law (wsV RL 125 RX13 yX13_stale wsX13_stale) := goodIn_app (goodIn_of _ (by decide +kernel)) ggL_law_X13_stale
set_option maxRecDepth 20000 in
theorem ggL_law_X12_stales : GoodIn wsL_law wsX12_stales := goodIn_r _ [1300, 1162, 1301, 646, 712, 713, 714, 2, 715, 665, 29, 1181, 1182, 1183, 1184, 35, 1270, 1271, 1272, 1273, 1201, 39, 1167, 1202, 1173, 1174, 1175, 38, 1176, 100, 1177, 1178, 1179, 1180, 99, 102, 103, 1274, 1275, 1276, 1277, 1278, 104, 107, 105, 106, 1769, 1770, 1771, 1772, 1773, 1774, 1775, 1776, 1777, 1778, 1779, 1780, 1781, 1782, 1783, 1784, 1785, 1786, 1787, 1788, 1989, 1990, 1991, 1992, 1993, 1994, 1995, 1996, 1997, 1929, 1930, 1931, 1932, 1933, 1934, 1935, 1936, 1937, 1938, 1939, 1940] (by decide +kernel) (by decide +kernel)
set_option maxRecDepth 20000 in
theorem gL_law_X12_stales : GoodIn wsL_law (wsV RL 126 RX12 yX12_stales wsX12_stales) := goodIn_app (goodIn_of _ (by decide +kernel)) ggL_law_X12_stales
set_option maxRecDepth 20000 in
theorem ggL_law_X13_stales : GoodIn wsL_law wsX13_stales := goodIn_r _ [1305, 1133, 184, 758, 857, 858, 859, 5, 860, 847, 244, 245, 246, 1287, 1288, 1289, 1290, 186, 187, 1291, 1292, 1293, 1294, 188, 1295, 197, 200, 198, 1296, 199, 1208, 1209, 1210, 1211, 194, 1212, 1213, 1214, 1215, 1216, 193, 196, 1789, 1790, 1791, 1792, 1793, 1794, 1795, 1796, 1797, 1798, 1799, 1800, 1801, 1802, 1803, 1804, 1805, 1806, 1807, 1808, 1809, 1810, 1811, 1812, 1813, 1814, 1815, 1816, 1817, 1818, 1819, 1820, 1821, 1822, 1823, 1824, 1825, 1826, 1827, 1828, 1829, 1830, 1831, 1832, 1833, 1834, 1835, 1836, 1837, 1838, 1839, 1840, 1841, 1842, 1843, 1844, 1845, 1846, 1847, 1848, 1849, 1850, 1851, 1852, 1853, 1854, 1855, 1856, 1857, 1858, 1859, 1860, 1861, 1862, 1863, 1864, 1865, 1866, 1867, 1868, 1869, 1870, 1871, 1872, 1873, 1874, 1875, 1876, 1877, 1878, 1879, 1880, 1881, 1882, 1883, 1884, 1885, 1886, 1887, 1888, 1889, 1890, 1891, 1892] (by decide +kernel) (by decide +kernel)
set_option maxRecDepth 20000 in
theorem gL_law_X13_stales : GoodIn wsL_law (wsV RL 129 RX13 yX13_stales wsX13_stales) := goodIn_app (goodIn_of _ (by decide +kernel)) ggL_law_X13_stales
set_option maxRecDepth 20000 in
theorem ggL_law_X12_mend : GoodIn wsL_law wsX12_mend := goodIn_r _ [1309, 1167, 39, 646, 1202, 1181, 1182, 1183, 2, 1184, 1162, 35, 1310, 1311, 1312, 1313, 1301, 877, 712, 713, 714, 715, 665, 29, 1173, 1174, 1175, 38, 1176, 100, 1177, 1178, 1179, 1180, 99, 102, 103, 1989, 1990, 1991, 1992, 1993, 1994, 1995, 1996, 1997, 1769, 1770, 1771, 1772, 1773, 1774, 1775, 1776, 1777, 1778, 1779, 1780, 1781, 1782, 1783, 1784, 1785, 1786, 1787, 1788, 1965, 1966, 1967, 1968, 1969, 1970, 1971, 1972, 1973, 1974, 1975, 1976, 1977, 1978, 1979, 1980, 1981, 1982, 1929, 1930, 1931, 1932, 1933, 1934, 1935, 1936, 1937, 1938, 1939, 1940] (by decide +kernel) (by decide +kernel)
set_option maxRecDepth 20000 in
theorem gL_law_X12_mend : GoodIn wsL_law (wsV RL 130 RX12 yX12_mend wsX12_mend) := goodIn_app (goodIn_of _ (by decide +kernel)) ggL_law_X12_mend
set_option maxRecDepth 20000 in
theorem ggL_law_X13_mend : GoodIn wsL_law wsX13_mend := goodIn_r _ [1317, 186, 188, 758, 1283, 1284, 1285, 5, 1286, 1133, 244, 245, 246, 1318, 1319, 1320, 1321, 177, 184, 1208, 1209, 1210, 1211, 194, 1212, 1213, 1214, 1215, 1216, 193, 196, 1789, 1790, 1791, 1792, 1793, 1794, 1795, 1796, 1797, 1798, 1799, 1800, 1801, 1802, 1803, 1804, 1805, 1806, 1807, 1808, 1809, 1810, 1811, 1812, 1813, 1814, 1815, 1816, 1817, 1818, 1819, 1820, 1821, 1822, 1823, 1824, 1825, 1826, 1827, 1828, 1829, 1830, 1831, 1832, 1833, 1834, 1835, 1836, 1837, 1838, 1839, 1840, 1841, 1842, 1843, 1844, 1845, 1846, 1847, 1848, 1849, 1850, 1851, 1852, 1853, 1854, 1855, 1856, 1857, 1858, 1859, 1860, 1861, 1862, 1863, 1864, 1865, 1866, 1867, 1868, 1869, 1870, 1871, 1872, 1873, 1874, 1875, 1876, 1877, 1878, 1879, 1880, 1881, 1882, 1883, 1884, 1885, 1886, 1887, 1888, 1889, 1890, 1891, 1892] (by decide +kernel) (by decide +kernel)
set_option maxRecDepth 20000 in
theorem gL_law_X13_mend : GoodIn wsL_law (wsV RL 133 RX13 yX13_mend wsX13_mend) := goodIn_app (goodIn_of _ (by decide +kernel)) ggL_law_X13_mend
set_option maxRecDepth 20000 in
theorem ggL_law_X12_erratum : GoodIn wsL_law wsX12_erratum := goodIn_r _ [1325, 1167, 39, 1202, 646, 1181, 1182, 1183, 2, 1184, 1162, 35, 1310, 1311, 1312, 1313, 1301, 877, 712, 713, 714, 715, 665, 29, 1274, 1275, 1276, 38, 1277, 1278, 104, 107, 105, 106, 1326, 1327, 1328, 1329, 109, 1989, 1990, 1991, 1992, 1993, 1994, 1995, 1996, 1997, 1769, 1770, 1771, 1772, 1773, 1774, 1775, 1776, 1777, 1778, 1779, 1780, 1781, 1782, 1783, 1784, 1785, 1786, 1787, 1788, 1965, 1966, 1967, 1968, 1969, 1970, 1971, 1972, 1973, 1974, 1975, 1976, 1977, 1978, 1979, 1980, 1981, 1982, 1929, 1930, 1931, 1932, 1933, 1934, 1935, 1936, 1937, 1938, 1939, 1940] (by decide +kernel) (by decide +kernel)
set_option maxRecDepth 20000 in
theorem gL_law_X12_erratum : GoodIn wsL_law (wsV RL 134 RX12 yX12_erratum wsX12_erratum) := goodIn_app (goodIn_of _ (by decide +kernel)) ggL_law_X12_erratum
set_option maxRecDepth 20000 in
theorem ggL_law_X13_erratum : GoodIn wsL_law wsX13_erratum := goodIn_r _ [1333, 186, 1295, 197, 198, 199, 200, 758, 1283, 1284, 1285, 5, 1286, 1133, 244, 245, 246, 1318, 1319, 1320, 1321, 177, 184, 1789, 1790, 1791, 1792, 1793, 1794, 1795, 1796, 1797, 1798, 1799, 1800, 1801, 1802, 1803, 1804, 1805, 1806, 1807, 1808, 1809, 1810, 1811, 1812, 1813, 1814, 1815, 1816, 1817, 1818, 1819, 1820, 1821, 1822, 1823, 1824, 1825, 1826, 1827, 1828, 1829, 1830, 1831, 1832, 1833, 1834, 1835, 1836, 1837, 1838, 1839, 1840, 1841, 1842, 1843, 1844, 1845, 1846, 1847, 1848, 1849, 1850, 1851, 1852, 1853, 1854, 1855, 1856, 1857, 1858, 1859, 1860, 1861, 1862, 1863, 1864, 1865, 1866, 1867, 1868, 1869, 1870, 1871, 1872, 1873, 1874, 1875, 1876, 1877, 1878, 1879, 1880, 1881, 1882, 1883, 1884, 1885, 1886, 1887, 1888, 1889, 1890, 1891, 1892] (by decide +kernel) (by decide +kernel)
set_option maxRecDepth 20000 in
theorem gL_law_X13_erratum : GoodIn wsL_law (wsV RL 137 RX13 yX13_erratum wsX13_erratum) := goodIn_app (goodIn_of _ (by decide +kernel)) ggL_law_X13_erratum
set_option maxRecDepth 20000 in
theorem ggL_law_X12_misses : GoodIn wsL_law wsX12_misses := goodIn_r _ [1337, 39, 1338, 1339, 1340, 38, 1341, 1278, 109, 1769, 1770, 1771, 1772, 1773, 1774, 1775, 1776, 1777, 1778, 1779, 1780, 1781, 1782, 1783, 1784, 1785, 1786, 1787, 1788, 1929, 1930, 1931, 1932, 1933, 1934, 1935, 1936, 1937, 1938, 1939, 1940] (by decide +kernel) (by decide +kernel)
set_option maxRecDepth 20000 in
theorem gL_law_X12_misses : GoodIn wsL_law (wsV RL 138 RX12 yX12_misses wsX12_misses) := goodIn_app (goodIn_of _ (by decide +kernel)) ggL_law_X12_misses
set_option maxRecDepth 20000 in
theorem ggL_law_X13_misses : GoodIn wsL_law wsX13_misses := goodIn_r _ [1345, 1295, 197, 1296, 244, 245, 5, 246, 1291, 1292, 1293, 1294, 188, 200, 198, 199, 1789, 1790, 1791, 1792, 1793, 1794, 1795, 1796, 1797, 1798, 1799, 1800, 1801, 1802, 1803, 1804, 1805, 1806, 1807, 1808, 1809, 1810, 1811, 1812, 1813, 1814, 1815, 1816, 1817, 1818, 1819, 1820, 1821, 1822, 1823, 1824, 1825, 1826, 1827, 1828, 1829, 1830, 1831, 1832, 1833, 1834, 1835, 1836, 1837, 1838, 1839, 1840, 1841, 1842, 1843, 1844, 1845, 1846, 1847, 1848, 1849, 1850, 1851, 1852, 1853, 1854, 1855, 1856, 1857, 1858, 1859, 1860, 1861, 1862, 1863, 1864, 1865, 1866, 1867, 1868, 1869, 1870, 1871, 1872, 1873, 1874, 1875, 1876, 1877, 1878, 1879, 1880, 1881, 1882, 1883, 1884, 1885, 1886, 1887, 1888, 1889, 1890, 1891, 1892] (by decide +kernel) (by decide +kernel)
set_option maxRecDepth 20000 in
theorem gL_law_X13_misses : GoodIn wsL_law (wsV RL 141 RX13 yX13_misses wsX13_misses) := goodIn_app (goodIn_of _ (by decide +kernel)) ggL_law_X13_misses
set_option maxRecDepth 20000 in
theorem ggL_law_X12_told : GoodIn wsL_law wsX12_told := goodIn_r _ [1349, 1202, 1167, 39, 646, 1203, 1301, 1350, 1166, 1351, 1181, 1182, 1183, 2, 1184, 1162, 35, 1274, 1275, 1276, 38, 1277, 1278, 104, 107, 105, 106, 1352, 1353, 1354, 1355, 1989, 1990, 1991, 1992, 1993, 1994, 1995, 1996, 1997, 1769, 1770, 1771, 1772, 1773, 1774, 1775, 1776, 1777, 1778, 1779, 1780, 1781, 1782, 1783, 1784, 1785, 1786, 1787, 1788, 1929, 1930, 1931, 1932, 1933, 1934, 1935, 1936, 1937, 1938, 1939, 1940] (by decide +kernel) (by decide +kernel)
set_option maxRecDepth 20000 in
theorem gL_law_X12_told : GoodIn wsL_law (wsV RL 142 RX12 yX12_told wsX12_told) := goodIn_app (goodIn_of _ (by decide +kernel)) ggL_law_X12_told
set_option maxRecDepth 20000 in
theorem ggL_law_X13_told : GoodIn wsL_law wsX13_told := goodIn_r _ [1359, 188, 186, 187, 184, 191, 190, 185, 1283, 1284, 1285, 5, 1286, 1133, 244, 245, 246, 1291, 1292, 1293, 1294, 1295, 197, 200, 198, 1296, 199, 1789, 1790, 1791, 1792, 1793, 1794, 1795, 1796, 1797, 1798, 1799, 1800, 1801, 1802, 1803, 1804, 1805, 1806, 1807, 1808, 1809, 1810, 1811, 1812, 1813, 1814, 1815, 1816, 1817, 1818, 1819, 1820, 1821, 1822, 1823, 1824, 1825, 1826, 1827, 1828, 1829, 1830, 1831, 1832, 1833, 1834, 1835, 1836, 1837, 1838, 1839, 1840, 1841, 1842, 1843, 1844, 1845, 1846, 1847, 1848, 1849, 1850, 1851, 1852, 1853, 1854, 1855, 1856, 1857, 1858, 1859, 1860, 1861, 1862, 1863, 1864, 1865, 1866, 1867, 1868, 1869, 1870, 1871, 1872, 1873, 1874, 1875, 1876, 1877, 1878, 1879, 1880, 1881, 1882, 1883, 1884, 1885, 1886, 1887, 1888, 1889, 1890, 1891, 1892] (by decide +kernel) (by decide +kernel)
set_option maxRecDepth 20000 in
theorem gL_law_X13_told : GoodIn wsL_law (wsV RL 145 RX13 yX13_told wsX13_told) := goodIn_app (goodIn_of _ (by decide +kernel)) ggL_law_X13_told
set_option maxRecDepth 20000 in
theorem ggL_law_X12_set : GoodIn wsL_law wsX12_set := goodIn_r _ [1363, 968, 1364, 749, 750, 751, 2, 752, 25, 647, 648, 649, 650, 971, 972, 973, 974, 970, 23, 646, 665, 877, 667, 668, 669, 22, 670, 671, 672, 673, 82, 674, 675, 676, 677, 678, 18, 679, 680, 72, 681, 682, 683, 684, 660, 73, 685, 686, 687, 688, 75, 74, 689, 690, 691, 601, 692, 693, 694, 695, 696, 697, 698, 699, 700, 77, 76, 701, 702, 703, 704, 705, 706, 707, 92, 708, 709, 710, 711, 712, 713, 714, 715, 29, 956, 957, 958, 959, 666, 896, 897, 898, 899, 895, 651, 652, 653, 654, 655, 722, 723, 724, 725, 726, 727, 728, 729, 730, 731, 732, 733, 734, 735, 736, 737, 975, 976, 977, 978, 31, 979, 623, 624, 625, 802, 980, 981, 982, 983, 984, 985, 986, 987, 988, 989, 739, 740, 277, 741, 742, 990, 991, 992, 993, 1365, 1366, 1367, 1368, 882, 1066, 1369, 1370, 1371, 1372, 1084, 1085, 1086, 1087, 1067, 1068, 1069, 1070, 1071, 1072, 1088, 1089, 1090, 1091, 19, 1092, 1093, 1094, 1095, 801, 1096, 1097, 800, 1098, 1099, 1050, 1051, 1052, 1053, 1028, 33, 1100, 1101, 1102, 1103, 1104, 1105, 1106, 1107, 1108, 1109, 1110, 1111, 1112, 1113, 1114, 852, 1115, 1116, 1117, 1118, 1119, 1120, 1121, 1122, 827, 825, 1123, 1124, 1373, 1374, 1375, 1376, 30, 1377, 1165, 311, 312, 969, 1378, 1379, 1380, 1381, 1382, 1383, 1384, 617, 112, 618, 619, 605, 606, 607, 608, 620, 621, 91, 93, 622, 1385, 1386, 1387, 1388, 1162, 1301, 1350, 1181, 1182, 1183, 1184, 35, 1389, 1390, 1391, 27, 1392, 1393, 89, 1394, 1395, 1396, 1397, 1922, 1923, 1924, 1925, 1926, 1927, 1928, 1769, 1770, 1771, 1772, 1773, 1774, 1775, 1776, 1777, 1778, 1779, 1780, 1781, 1782, 1783, 1784, 1785, 1786, 1787, 1788, 1965, 1966, 1967, 1968, 1969, 1970, 1971, 1972, 1973, 1974, 1975, 1976, 1977, 1978, 1979, 1980, 1981, 1982, 1916, 1917, 1918, 1919, 1920, 1921, 1908, 1909, 1910, 1911, 1912, 1913, 1914, 1915, 1961, 1962, 1963, 1964, 1983, 1984, 1985, 1986, 1987, 1988, 1989, 1990, 1991, 1992, 1993, 1994, 1995, 1996, 1997] (by decide +kernel) (by decide +kernel)
set_option maxRecDepth 20000 in
theorem gL_law_X12_set : GoodIn wsL_law (wsV RL 146 RX12 yX12_set wsX12_set) := goodIn_app (goodIn_of _ (by decide +kernel)) ggL_law_X12_set
set_option maxRecDepth 20000 in
theorem ggL_law_X13_set : GoodIn wsL_law wsX13_set := goodIn_r _ [1401, 162, 209, 165, 177, 175, 178, 169, 1133, 184, 191, 192, 163, 758, 164, 166, 759, 760, 5, 761, 244, 245, 246, 998, 999, 1000, 1001, 847, 908, 909, 910, 911, 176, 912, 913, 914, 915, 206, 161, 916, 917, 918, 919, 168, 167, 920, 921, 922, 923, 774, 775, 776, 777, 757, 160, 159, 153, 158, 924, 925, 926, 927, 928, 929, 930, 154, 151, 205, 152, 204, 931, 932, 933, 934, 935, 936, 937, 938, 939, 503, 940, 941, 942, 943, 155, 157, 156, 513, 514, 515, 1002, 1003, 1004, 1005, 1006, 1007, 1008, 1009, 207, 1402, 1403, 1404, 1405, 174, 1138, 1139, 1140, 1141, 172, 1142, 1143, 1144, 1145, 1146, 1147, 1148, 1149, 173, 171, 180, 181, 1150, 1151, 1152, 1153, 186, 1154, 1155, 1156, 1157, 1789, 1790, 1791, 1792, 1793, 1794, 1795, 1796, 1797, 1798, 1799, 1800, 1801, 1802, 1803, 1804, 1805, 1806, 1807, 1808, 1809, 1810, 1811, 1812, 1813, 1814, 1815, 1816, 1817, 1818, 1819, 1820, 1821, 1822, 1823, 1824, 1825, 1826, 1827, 1828, 1829, 1830, 1831, 1832, 1833, 1834, 1835, 1836, 1837, 1838, 1839, 1840, 1841, 1842, 1843, 1844, 1845, 1846, 1847, 1848, 1849, 1850, 1851, 1852, 1853, 1854, 1855, 1856, 1857, 1858, 1859, 1860, 1861, 1862, 1863, 1864, 1865, 1866, 1867, 1868, 1869, 1870, 1871, 1872, 1873, 1874, 1875, 1876, 1877, 1878, 1879, 1880, 1881, 1882, 1883, 1884, 1885, 1886, 1887, 1888, 1889, 1890, 1891, 1892] (by decide +kernel) (by decide +kernel)
set_option maxRecDepth 20000 in
theorem gL_law_X13_set : GoodIn wsL_law (wsV RL 149 RX13 yX13_set wsX13_set) := goodIn_app (goodIn_of _ (by decide +kernel)) ggL_law_X13_set
set_option maxRecDepth 20000 in
theorem ggL_law_X12_page : GoodIn wsL_law wsX12_page := goodIn_r _ [1409, 1379, 712, 713, 714, 2, 715, 665, 29, 1352, 1353, 1354, 1355, 1965, 1966, 1967, 1968, 1969, 1970, 1971, 1972, 1973, 1974, 1975, 1976, 1977, 1978, 1979, 1980, 1981, 1982, 1769, 1770, 1771, 1772, 1773, 1774, 1775, 1776, 1777, 1778, 1779, 1780, 1781, 1782, 1783, 1784, 1785, 1786, 1787, 1788] (by decide +kernel) (by decide +kernel)
set_option maxRecDepth 20000 in
theorem gL_law_X12_page : GoodIn wsL_law (wsV RL 150 RX12 yX12_page wsX12_page) := goodIn_app (goodIn_of _ (by decide +kernel)) ggL_law_X12_page
set_option maxRecDepth 20000 in
theorem ggL_law_X13_page : GoodIn wsL_law wsX13_page := goodIn_r _ [1413, 178, 857, 858, 859, 5, 860, 847, 244, 245, 246, 1789, 1790, 1791, 1792, 1793, 1794, 1795, 1796, 1797, 1798, 1799, 1800, 1801, 1802, 1803, 1804, 1805, 1806, 1807, 1808, 1809, 1810, 1811, 1812, 1813, 1814, 1815, 1816, 1817, 1818, 1819, 1820, 1821, 1822, 1823, 1824, 1825, 1826, 1827, 1828, 1829, 1830, 1831, 1832, 1833, 1834, 1835, 1836, 1837, 1838, 1839, 1840, 1841, 1842, 1843, 1844, 1845, 1846, 1847, 1848, 1849, 1850, 1851, 1852, 1853, 1854, 1855, 1856, 1857, 1858, 1859, 1860, 1861, 1862, 1863, 1864, 1865, 1866, 1867, 1868, 1869, 1870, 1871, 1872, 1873, 1874, 1875, 1876, 1877, 1878, 1879, 1880, 1881, 1882, 1883, 1884, 1885, 1886, 1887, 1888, 1889, 1890, 1891, 1892] (by decide +kernel) (by decide +kernel)
set_option maxRecDepth 20000 in
theorem gL_law_X13_page : GoodIn wsL_law (wsV RL 153 RX13 yX13_page wsX13_page) := goodIn_app (goodIn_of _ (by decide +kernel)) ggL_law_X13_page
set_option maxRecDepth 20000 in
theorem ggL_law_X12_promise : GoodIn wsL_law wsX12_promise := goodIn_r _ [1417, 877, 878, 879, 880, 2, 881, 882, 712, 713, 714, 715, 665, 29, 1418, 1419, 1420, 1421, 1084, 1085, 1086, 1087, 895, 896, 897, 898, 899, 666, 651, 652, 653, 654, 655, 1422, 1423, 1424, 1425, 852, 1426, 1427, 1428, 1429, 1965, 1966, 1967, 1968, 1969, 1970, 1971, 1972, 1973, 1974, 1975, 1976, 1977, 1978, 1979, 1980, 1981, 1982, 1769, 1770, 1771, 1772, 1773, 1774, 1775, 1776, 1777, 1778, 1779, 1780, 1781, 1782, 1783, 1784, 1785, 1786, 1787, 1788] (by decide +kernel) (by decide +kernel)
set_option maxRecDepth 20000 in
theorem gL_law_X12_promise : GoodIn wsL_law (wsV RL 154 RX12 yX12_promise wsX12_promise) := goodIn_app (goodIn_of _ (by decide +kernel)) ggL_law_X12_promise
set_option maxRecDepth 20000 in
theorem ggL_law_X13_promise : GoodIn wsL_law wsX13_promise := goodIn_r _ [1433, 169, 173, 177, 857, 858, 859, 5, 860, 847, 244, 245, 246, 1434, 1435, 1436, 1437, 175, 908, 909, 910, 911, 176, 162, 912, 913, 914, 915, 206, 758, 161, 916, 917, 918, 919, 168, 167, 920, 921, 922, 923, 774, 775, 776, 777, 757, 160, 159, 153, 158, 924, 925, 926, 927, 928, 929, 930, 154, 151, 205, 152, 204, 931, 932, 933, 934, 935, 936, 937, 938, 939, 503, 940, 941, 942, 943, 155, 157, 156, 513, 514, 515, 1438, 1439, 1440, 1441, 1789, 1790, 1791, 1792, 1793, 1794, 1795, 1796, 1797, 1798, 1799, 1800, 1801, 1802, 1803, 1804, 1805, 1806, 1807, 1808, 1809, 1810, 1811, 1812, 1813, 1814, 1815, 1816, 1817, 1818, 1819, 1820, 1821, 1822, 1823, 1824, 1825, 1826, 1827, 1828, 1829, 1830, 1831, 1832, 1833, 1834, 1835, 1836, 1837, 1838, 1839, 1840, 1841, 1842, 1843, 1844, 1845, 1846, 1847, 1848, 1849, 1850, 1851, 1852, 1853, 1854, 1855, 1856, 1857, 1858, 1859, 1860, 1861, 1862, 1863, 1864, 1865, 1866, 1867, 1868, 1869, 1870, 1871, 1872, 1873, 1874, 1875, 1876, 1877, 1878, 1879, 1880, 1881, 1882, 1883, 1884, 1885, 1886, 1887, 1888, 1889, 1890, 1891, 1892] (by decide +kernel) (by decide +kernel)
set_option maxRecDepth 20000 in
theorem gL_law_X13_promise : GoodIn wsL_law (wsV RL 157 RX13 yX13_promise wsX13_promise) := goodIn_app (goodIn_of _ (by decide +kernel)) ggL_law_X13_promise
set_option maxRecDepth 20000 in
theorem ggL_law_X12_ends : GoodIn wsL_law wsX12_ends := goodIn_r _ [1445, 802, 878, 879, 880, 2, 881, 882, 712, 713, 714, 715, 665, 29, 1422, 1423, 1424, 1425, 852, 1965, 1966, 1967, 1968, 1969, 1970, 1971, 1972, 1973, 1974, 1975, 1976, 1977, 1978, 1979, 1980, 1981, 1982, 1769, 1770, 1771, 1772, 1773, 1774, 1775, 1776, 1777, 1778, 1779, 1780, 1781, 1782, 1783, 1784, 1785, 1786, 1787, 1788] (by decide +kernel) (by decide +kernel)
set_option maxRecDepth 20000 in
theorem gL_law_X12_ends : GoodIn wsL_law (wsV RL 158 RX12 yX12_ends wsX12_ends) := goodIn_app (goodIn_of _ (by decide +kernel)) ggL_law_X12_ends
set_option maxRecDepth 20000 in
theorem ggL_law_X13_ends : GoodIn wsL_law wsX13_ends := goodIn_r _ [1449, 169, 857, 858, 859, 5, 860, 847, 244, 245, 246, 1438, 1439, 1440, 1441, 173, 1789, 1790, 1791, 1792, 1793, 1794, 1795, 1796, 1797, 1798, 1799, 1800, 1801, 1802, 1803, 1804, 1805, 1806, 1807, 1808, 1809, 1810, 1811, 1812, 1813, 1814, 1815, 1816, 1817, 1818, 1819, 1820, 1821, 1822, 1823, 1824, 1825, 1826, 1827, 1828, 1829, 1830, 1831, 1832, 1833, 1834, 1835, 1836, 1837, 1838, 1839, 1840, 1841, 1842, 1843, 1844, 1845, 1846, 1847, 1848, 1849, 1850, 1851, 1852, 1853, 1854, 1855, 1856, 1857, 1858, 1859, 1860, 1861, 1862, 1863, 1864, 1865, 1866, 1867, 1868, 1869, 1870, 1871, 1872, 1873, 1874, 1875, 1876, 1877, 1878, 1879, 1880, 1881, 1882, 1883, 1884, 1885, 1886, 1887, 1888, 1889, 1890, 1891, 1892] (by decide +kernel) (by decide +kernel)
set_option maxRecDepth 20000 in
theorem gL_law_X13_ends : GoodIn wsL_law (wsV RL 161 RX13 yX13_ends wsX13_ends) := goodIn_app (goodIn_of _ (by decide +kernel)) ggL_law_X13_ends
set_option maxRecDepth 20000 in
theorem ggL_law_X12_promised : GoodIn wsL_law wsX12_promised := goodIn_r _ [1453, 665, 1066, 1050, 1051, 1052, 2, 1053, 1028, 33, 878, 879, 880, 881, 882, 712, 713, 714, 715, 29, 1084, 1085, 1086, 1087, 895, 1422, 1423, 1424, 1425, 852, 1233, 1234, 1235, 1236, 1083, 1119, 1120, 1121, 277, 1122, 827, 825, 1071, 1072, 1123, 1769, 1770, 1771, 1772, 1773, 1774, 1775, 1776, 1777, 1778, 1779, 1780, 1781, 1782, 1783, 1784, 1785, 1786, 1787, 1788, 1965, 1966, 1967, 1968, 1969, 1970, 1971, 1972, 1973, 1974, 1975, 1976, 1977, 1978, 1979, 1980, 1981, 1982, 1983, 1984, 1985, 1986, 1987, 1988] (by decide +kernel) (by decide +kernel)
set_option maxRecDepth 20000 in
theorem gL_law_X12_promised : GoodIn wsL_law (wsV RL 162 RX12 yX12_promised wsX12_promised) := goodIn_app (goodIn_of _ (by decide +kernel)) ggL_law_X12_promised
set_option maxRecDepth 20000 in
theorem ggL_law_X13_promised : GoodIn wsL_law wsX13_promised := goodIn_r _ [1457, 847, 169, 175, 174, 1058, 1059, 1060, 5, 1061, 1044, 244, 245, 246, 1438, 1439, 1440, 1441, 173, 1225, 1226, 1227, 1228, 182, 1138, 1139, 1140, 1141, 172, 1142, 1143, 1144, 1145, 1133, 184, 1789, 1790, 1791, 1792, 1793, 1794, 1795, 1796, 1797, 1798, 1799, 1800, 1801, 1802, 1803, 1804, 1805, 1806, 1807, 1808, 1809, 1810, 1811, 1812, 1813, 1814, 1815, 1816, 1817, 1818, 1819, 1820, 1821, 1822, 1823, 1824, 1825, 1826, 1827, 1828, 1829, 1830, 1831, 1832, 1833, 1834, 1835, 1836, 1837, 1838, 1839, 1840, 1841, 1842, 1843, 1844, 1845, 1846, 1847, 1848, 1849, 1850, 1851, 1852, 1853, 1854, 1855, 1856, 1857, 1858, 1859, 1860, 1861, 1862, 1863, 1864, 1865, 1866, 1867, 1868, 1869, 1870, 1871, 1872, 1873, 1874, 1875, 1876, 1877, 1878, 1879, 1880, 1881, 1882, 1883, 1884, 1885, 1886, 1887, 1888, 1889, 1890, 1891, 1892] (by decide +kernel) (by decide +kernel)
set_option maxRecDepth 20000 in
theorem gL_law_X13_promised : GoodIn wsL_law (wsV RL 165 RX13 yX13_promised wsX13_promised) := goodIn_app (goodIn_of _ (by decide +kernel)) ggL_law_X13_promised
set_option maxRecDepth 20000 in
theorem ggL_law_X12_subscribe : GoodIn wsL_law wsX12_subscribe := goodIn_r _ [1461, 40, 41, 1462, 1463, 1464, 2, 1465, 647, 648, 649, 650, 1769, 1770, 1771, 1772, 1773, 1774, 1775, 1776, 1777, 1778, 1779, 1780, 1781, 1782, 1783, 1784, 1785, 1786, 1787, 1788] (by decide +kernel) (by decide +kernel)
set_option maxRecDepth 20000 in
theorem gL_law_X12_subscribe : GoodIn wsL_law (wsV RL 166 RX12 yX12_subscribe wsX12_subscribe) := goodIn_app (goodIn_of _ (by decide +kernel)) ggL_law_X12_subscribe
set_option maxRecDepth 20000 in
theorem ggL_law_X13_subscribe : GoodIn wsL_law wsX13_subscribe := goodIn_r _ [1469, 202, 201, 244, 245, 5, 246, 759, 760, 761, 1789, 1790, 1791, 1792, 1793, 1794, 1795, 1796, 1797, 1798, 1799, 1800, 1801, 1802, 1803, 1804, 1805, 1806, 1807, 1808, 1809, 1810, 1811, 1812, 1813, 1814, 1815, 1816, 1817, 1818, 1819, 1820, 1821, 1822, 1823, 1824, 1825, 1826, 1827, 1828, 1829, 1830, 1831, 1832, 1833, 1834, 1835, 1836, 1837, 1838, 1839, 1840, 1841, 1842, 1843, 1844, 1845, 1846, 1847, 1848, 1849, 1850, 1851, 1852, 1853, 1854, 1855, 1856, 1857, 1858, 1859, 1860, 1861, 1862, 1863, 1864, 1865, 1866, 1867, 1868, 1869, 1870, 1871, 1872, 1873, 1874, 1875, 1876, 1877, 1878, 1879, 1880, 1881, 1882, 1883, 1884, 1885, 1886, 1887, 1888, 1889, 1890, 1891, 1892] (by decide +kernel) (by decide +kernel)
set_option maxRecDepth 20000 in
theorem gL_law_X13_subscribe : GoodIn wsL_law (wsV RL 169 RX13 yX13_subscribe wsX13_subscribe) := goodIn_app (goodIn_of _ (by decide +kernel)) ggL_law_X13_subscribe
set_option maxRecDepth 20000 in
theorem ggL_law_X12_owed : GoodIn wsL_law wsX12_owed := goodIn_r _ [1473, 40, 19, 1378, 1364, 968, 41, 782, 91, 92, 93, 1165, 311, 312, 1474, 1475, 1476, 2, 1477, 749, 750, 751, 752, 25, 647, 648, 649, 650, 1462, 1463, 1464, 1465, 1478, 1479, 1480, 18, 1481, 76, 1482, 111, 112, 113, 1100, 1101, 1102, 1103, 1124, 677, 678, 679, 680, 72, 681, 682, 683, 684, 660, 73, 685, 686, 687, 688, 75, 74, 689, 690, 691, 601, 692, 693, 694, 695, 696, 697, 698, 699, 700, 77, 701, 702, 703, 704, 705, 706, 707, 708, 709, 710, 711, 1769, 1770, 1771, 1772, 1773, 1774, 1775, 1776, 1777, 1778, 1779, 1780, 1781, 1782, 1783, 1784, 1785, 1786, 1787, 1788, 1922, 1923, 1924, 1925, 1926, 1927, 1928, 1908, 1909, 1910, 1911, 1912, 1913, 1914, 1915, 1961, 1962, 1963, 1964] (by decide +kernel) (by decide +kernel)
set_option maxRecDepth 20000 in
theorem gL_law_X12_owed : GoodIn wsL_law (wsV RL 170 RX12 yX12_owed wsX12_owed) := goodIn_app (goodIn_of _ (by decide +kernel)) ggL_law_X12_owed
set_option maxRecDepth 20000 in
theorem ggL_law_X13_owed : GoodIn wsL_law wsX13_owed := goodIn_r _ [1486, 202, 162, 201, 204, 847, 177, 175, 166, 163, 244, 245, 5, 246, 759, 760, 761, 920, 921, 922, 923, 774, 775, 776, 777, 757, 160, 159, 153, 158, 924, 925, 926, 927, 928, 929, 930, 154, 151, 205, 152, 931, 932, 933, 934, 935, 936, 937, 938, 939, 503, 1789, 1790, 1791, 1792, 1793, 1794, 1795, 1796, 1797, 1798, 1799, 1800, 1801, 1802, 1803, 1804, 1805, 1806, 1807, 1808, 1809, 1810, 1811, 1812, 1813, 1814, 1815, 1816, 1817, 1818, 1819, 1820, 1821, 1822, 1823, 1824, 1825, 1826, 1827, 1828, 1829, 1830, 1831, 1832, 1833, 1834, 1835, 1836, 1837, 1838, 1839, 1840, 1841, 1842, 1843, 1844, 1845, 1846, 1847, 1848, 1849, 1850, 1851, 1852, 1853, 1854, 1855, 1856, 1857, 1858, 1859, 1860, 1861, 1862, 1863, 1864, 1865, 1866, 1867, 1868, 1869, 1870, 1871, 1872, 1873, 1874, 1875, 1876, 1877, 1878, 1879, 1880, 1881, 1882, 1883, 1884, 1885, 1886, 1887, 1888, 1889, 1890, 1891, 1892] (by decide +kernel) (by decide +kernel)
set_option maxRecDepth 20000 in
theorem gL_law_X13_owed : GoodIn wsL_law (wsV RL 173 RX13 yX13_owed wsX13_owed) := goodIn_app (goodIn_of _ (by decide +kernel)) ggL_law_X13_owed
set_option maxRecDepth 20000 in
theorem ggL_law_X12_lengths : GoodIn wsL_law wsX12_lengths := goodIn_r _ [1490, 45, 1491, 1492, 1493, 2, 1494, 970, 647, 648, 649, 650, 651, 652, 653, 654, 655, 971, 972, 973, 974, 23, 646, 665, 877, 667, 668, 669, 22, 670, 671, 672, 673, 82, 674, 675, 676, 677, 678, 18, 679, 680, 72, 681, 682, 683, 684, 660, 73, 685, 686, 687, 688, 75, 74, 689, 690, 691, 601, 692, 693, 694, 695, 696, 697, 698, 699, 700, 77, 76, 701, 702, 703, 704, 705, 706, 707, 92, 708, 709, 710, 711, 712, 713, 714, 715, 29, 956, 957, 958, 959, 666, 896, 897, 898, 899, 895, 722, 723, 724, 725, 726, 727, 728, 729, 730, 731, 732, 733, 734, 735, 736, 737, 975, 976, 977, 978, 31, 979, 623, 624, 625, 802, 980, 981, 982, 983, 984, 985, 986, 987, 988, 989, 739, 740, 277, 741, 742, 990, 991, 992, 993, 1495, 1496, 1497, 44, 1498, 1499, 1500, 1369, 1370, 1371, 1372, 1084, 1085, 1086, 1087, 1501, 1502, 1503, 1504, 882, 1505, 799, 1066, 801, 782, 91, 93, 1394, 1395, 1396, 1397, 1096, 1088, 1089, 1090, 1091, 19, 1092, 1093, 1094, 1095, 1097, 800, 1098, 1099, 1050, 1051, 1052, 1053, 1028, 33, 1100, 1101, 1102, 1103, 1104, 1105, 1106, 1107, 1108, 1109, 1110, 1111, 1112, 1113, 1114, 852, 1115, 1116, 1117, 1118, 1119, 1120, 1121, 1122, 827, 825, 1071, 1072, 1123, 1124, 1506, 1507, 1508, 1509, 1165, 311, 312, 1510, 1511, 1512, 1513, 118, 119, 120, 121, 122, 1514, 1515, 1516, 1517, 1518, 1519, 1520, 1521, 1522, 1523, 1524, 1525, 1526, 1527, 1528, 1529, 1530, 1531, 1532, 1533, 1534, 1769, 1770, 1771, 1772, 1773, 1774, 1775, 1776, 1777, 1778, 1779, 1780, 1781, 1782, 1783, 1784, 1785, 1786, 1787, 1788, 1965, 1966, 1967, 1968, 1969, 1970, 1971, 1972, 1973, 1974, 1975, 1976, 1977, 1978, 1979, 1980, 1981, 1982, 1916, 1917, 1918, 1919, 1920, 1921, 1908, 1909, 1910, 1911, 1912, 1913, 1914, 1915, 1961, 1962, 1963, 1964, 1941, 1942, 1943, 1944, 1945, 1946, 1947, 1983, 1984, 1985, 1986, 1987, 1988] (by decide +kernel) (by decide +kernel)
set_option maxRecDepth 20000 in
theorem gL_law_X12_lengths : GoodIn wsL_law (wsV RL 174 RX12 yX12_lengths wsX12_lengths) := goodIn_app (goodIn_of _ (by decide +kernel)) ggL_law_X12_lengths
set_option maxRecDepth 20000 in
theorem ggL_law_X13_lengths : GoodIn wsL_law wsX13_lengths := goodIn_r _ [1538, 1539, 1540, 1541, 1542, 5, 1543, 162, 209, 175, 169, 174, 211, 170, 758, 210, 212, 172, 759, 760, 761, 244, 245, 246, 998, 999, 1000, 1001, 164, 165, 847, 908, 909, 910, 911, 177, 176, 912, 913, 914, 915, 206, 161, 916, 917, 918, 919, 168, 167, 920, 921, 922, 923, 774, 775, 776, 777, 757, 160, 159, 153, 158, 924, 925, 926, 927, 928, 929, 930, 154, 151, 205, 152, 204, 931, 932, 933, 934, 935, 936, 937, 938, 939, 503, 940, 941, 942, 943, 155, 157, 156, 513, 514, 515, 1002, 1003, 1004, 1005, 1006, 1007, 1008, 1009, 207, 1146, 1147, 1148, 1149, 173, 171, 180, 181, 1142, 1143, 1144, 1145, 1133, 184, 1150, 1151, 1152, 1153, 186, 1154, 1155, 1156, 1157, 1138, 1139, 1140, 1141, 1544, 1545, 1546, 1789, 1790, 1791, 1792, 1793, 1794, 1795, 1796, 1797, 1798, 1799, 1800, 1801, 1802, 1803, 1804, 1805, 1806, 1807, 1808, 1809, 1810, 1811, 1812, 1813, 1814, 1815, 1816, 1817, 1818, 1819, 1820, 1821, 1822, 1823, 1824, 1825, 1826, 1827, 1828, 1829, 1830, 1831, 1832, 1833, 1834, 1835, 1836, 1837, 1838, 1839, 1840, 1841, 1842, 1843, 1844, 1845, 1846, 1847, 1848, 1849, 1850, 1851, 1852, 1853, 1854, 1855, 1856, 1857, 1858, 1859, 1860, 1861, 1862, 1863, 1864, 1865, 1866, 1867, 1868, 1869, 1870, 1871, 1872, 1873, 1874, 1875, 1876, 1877, 1878, 1879, 1880, 1881, 1882, 1883, 1884, 1885, 1886, 1887, 1888, 1889, 1890, 1891, 1892] (by decide +kernel) (by decide +kernel)
set_option maxRecDepth 20000 in
theorem gL_law_X13_lengths : GoodIn wsL_law (wsV RL 177 RX13 yX13_lengths wsX13_lengths) := goodIn_app (goodIn_of _ (by decide +kernel)) ggL_law_X13_lengths
set_option maxRecDepth 20000 in
theorem ggL_law_X12_length : GoodIn wsL_law wsX12_length := goodIn_r _ [1550, 45, 878, 879, 880, 2, 881, 882, 712, 713, 714, 715, 665, 29, 1418, 1419, 1420, 1421, 1084, 1085, 1086, 1087, 895, 896, 897, 898, 899, 877, 666, 651, 652, 653, 654, 655, 956, 957, 958, 959, 1491, 1492, 1493, 1494, 970, 647, 648, 649, 650, 971, 972, 973, 974, 23, 646, 667, 668, 669, 22, 670, 671, 672, 673, 82, 674, 675, 676, 677, 678, 18, 679, 680, 72, 681, 682, 683, 684, 660, 73, 685, 686, 687, 688, 75, 74, 689, 690, 691, 601, 692, 693, 694, 695, 696, 697, 698, 699, 700, 77, 76, 701, 702, 703, 704, 705, 706, 707, 92, 708, 709, 710, 711, 722, 723, 724, 725, 726, 727, 728, 729, 730, 731, 732, 733, 734, 735, 736, 737, 975, 976, 977, 978, 31, 979, 623, 624, 625, 802, 980, 981, 982, 983, 984, 985, 986, 987, 988, 989, 739, 740, 277, 741, 742, 990, 991, 992, 993, 1495, 1496, 1497, 44, 1498, 1499, 1500, 1369, 1370, 1371, 1372, 1501, 1502, 1503, 1504, 1505, 799, 1066, 801, 782, 91, 93, 1394, 1395, 1396, 1397, 1096, 1088, 1089, 1090, 1091, 19, 1092, 1093, 1094, 1095, 1097, 800, 1098, 1099, 1050, 1051, 1052, 1053, 1028, 33, 1100, 1101, 1102, 1103, 1104, 1105, 1106, 1107, 1108, 1109, 1110, 1111, 1112, 1113, 1114, 852, 1115, 1116, 1117, 1118, 1119, 1120, 1121, 1122, 827, 825, 1071, 1072, 1123, 1124, 1506, 1507, 1508, 1509, 1165, 311, 312, 1510, 1511, 1512, 1513, 118, 119, 120, 121, 122, 1514, 1515, 1516, 1517, 1518, 1519, 1520, 1521, 1522, 1523, 1524, 1525, 1526, 1527, 1528, 1529, 1530, 1551, 1552, 1553, 1554, 1769, 1770, 1771, 1772, 1773, 1774, 1775, 1776, 1777, 1778, 1779, 1780, 1781, 1782, 1783, 1784, 1785, 1786, 1787, 1788, 1965, 1966, 1967, 1968, 1969, 1970, 1971, 1972, 1973, 1974, 1975, 1976, 1977, 1978, 1979, 1980, 1981, 1982, 1916, 1917, 1918, 1919, 1920, 1921, 1908, 1909, 1910, 1911, 1912, 1913, 1914, 1915, 1961, 1962, 1963, 1964, 1941, 1942, 1943, 1944, 1945, 1946, 1947, 1983, 1984, 1985, 1986, 1987, 1988] (by decide +kernel) (by decide +kernel)
set_option maxRecDepth 20000 in
theorem gL_law_X12_length : GoodIn wsL_law (wsV RL 178 RX12 yX12_length wsX12_length) := goodIn_app (goodIn_of _ (by decide +kernel)) ggL_law_X12_length
set_option maxRecDepth 20000 in
theorem ggL_law_X13_length : GoodIn wsL_law wsX13_length := goodIn_r _ [1558, 175, 177, 212, 1134, 1135, 1136, 5, 1137, 169, 857, 858, 859, 860, 847, 244, 245, 246, 908, 909, 910, 911, 176, 162, 912, 913, 914, 915, 206, 758, 161, 916, 917, 918, 919, 168, 167, 920, 921, 922, 923, 774, 775, 776, 777, 757, 160, 159, 153, 158, 924, 925, 926, 927, 928, 929, 930, 154, 151, 205, 152, 204, 931, 932, 933, 934, 935, 936, 937, 938, 939, 503, 940, 941, 942, 943, 155, 157, 156, 513, 514, 515, 1540, 1541, 1542, 1543, 1539, 209, 174, 211, 170, 210, 172, 759, 760, 761, 998, 999, 1000, 1001, 164, 165, 1002, 1003, 1004, 1005, 1006, 1007, 1008, 1009, 207, 1146, 1147, 1148, 1149, 173, 171, 180, 181, 1142, 1143, 1144, 1145, 1133, 184, 1150, 1151, 1152, 1153, 186, 1154, 1155, 1156, 1157, 1138, 1139, 1140, 1141, 1544, 1545, 1546, 1789, 1790, 1791, 1792, 1793, 1794, 1795, 1796, 1797, 1798, 1799, 1800, 1801, 1802, 1803, 1804, 1805, 1806, 1807, 1808, 1809, 1810, 1811, 1812, 1813, 1814, 1815, 1816, 1817, 1818, 1819, 1820, 1821, 1822, 1823, 1824, 1825, 1826, 1827, 1828, 1829, 1830, 1831, 1832, 1833, 1834, 1835, 1836, 1837, 1838, 1839, 1840, 1841, 1842, 1843, 1844, 1845, 1846, 1847, 1848, 1849, 1850, 1851, 1852, 1853, 1854, 1855, 1856, 1857, 1858, 1859, 1860, 1861, 1862, 1863, 1864, 1865, 1866, 1867, 1868, 1869, 1870, 1871, 1872, 1873, 1874, 1875, 1876, 1877, 1878, 1879, 1880, 1881, 1882, 1883, 1884, 1885, 1886, 1887, 1888, 1889, 1890, 1891, 1892] (by decide +kernel) (by decide +kernel)
set_option maxRecDepth 20000 in
theorem gL_law_X13_length : GoodIn wsL_law (wsV RL 181 RX13 yX13_length wsX13_length) := goodIn_app (goodIn_of _ (by decide +kernel)) ggL_law_X13_length
set_option maxRecDepth 20000 in
theorem ggL_law_X12_giving : GoodIn wsL_law wsX12_giving := goodIn_r _ [1562, 49, 1563, 1564, 1565, 2, 1566, 1567, 1568, 1569, 1570, 1571, 1572, 1573, 1574, 1575, 1576, 1577, 1578, 1098, 1579, 1580, 1581, 48, 1582, 1583, 1584, 1079, 1080, 1081, 1082, 1083, 1050, 1051, 1052, 1053, 1028, 33, 1585, 1586, 1587, 1588, 129, 130, 131, 1589, 1590, 1591, 1592, 877, 1066, 801, 1096, 1593, 878, 879, 880, 881, 882, 712, 713, 714, 715, 665, 29, 1067, 1068, 1069, 277, 1070, 1071, 1072, 1084, 1085, 1086, 1087, 895, 1594, 1595, 1596, 1597, 126, 127, 128, 1598, 1599, 1600, 1601, 1073, 1074, 1075, 1076, 1077, 800, 1049, 1078, 1088, 1089, 1090, 1091, 19, 646, 956, 957, 958, 959, 666, 896, 897, 898, 899, 651, 652, 653, 654, 655, 1092, 1093, 1094, 1095, 1097, 802, 1099, 1100, 1101, 1102, 18, 1103, 76, 1104, 1105, 1106, 1107, 1108, 1109, 1110, 1111, 1112, 1113, 1114, 852, 1115, 1116, 1117, 1118, 1119, 1120, 1121, 1122, 827, 825, 1123, 1124, 677, 678, 679, 680, 72, 681, 682, 683, 684, 660, 73, 685, 686, 687, 688, 75, 74, 689, 690, 691, 601, 692, 693, 694, 695, 696, 697, 698, 699, 700, 77, 701, 702, 703, 704, 705, 706, 707, 92, 708, 709, 710, 711, 1602, 1603, 1604, 1605, 1606, 1607, 1608, 1609, 1610, 1611, 1612, 1613, 1614, 91, 93, 1615, 311, 312, 133, 132, 1616, 1617, 1618, 1619, 1620, 1621, 1622, 1623, 1624, 1625, 1626, 1627, 1628, 1629, 1630, 1631, 1632, 1769, 1770, 1771, 1772, 1773, 1774, 1775, 1776, 1777, 1778, 1779, 1780, 1781, 1782, 1783, 1784, 1785, 1786, 1787, 1788, 1983, 1984, 1985, 1986, 1987, 1988, 1948, 1949, 1950, 1951, 1952, 1953, 1954, 1955, 1956, 1957, 1965, 1966, 1967, 1968, 1969, 1970, 1971, 1972, 1973, 1974, 1975, 1976, 1977, 1978, 1979, 1980, 1981, 1982, 1908, 1909, 1910, 1911, 1912, 1913, 1914, 1915, 1961, 1962, 1963, 1964] (by decide +kernel) (by decide +kernel)
set_option maxRecDepth 20000 in
theorem gL_law_X12_giving : GoodIn wsL_law (wsV RL 182 RX12 yX12_giving wsX12_giving) := goodIn_app (goodIn_of _ (by decide +kernel)) ggL_law_X12_giving
set_option maxRecDepth 20000 in
theorem ggL_law_X13_giving : GoodIn wsL_law wsX13_giving := goodIn_r _ [1636, 1637, 1638, 1639, 1640, 5, 1641, 1642, 1044, 1643, 1644, 175, 177, 174, 182, 213, 217, 172, 214, 215, 244, 245, 246, 1134, 1135, 1136, 1137, 169, 857, 858, 859, 860, 847, 1138, 1139, 1140, 1141, 1142, 1143, 1144, 1145, 1133, 184, 1129, 1130, 1131, 1132, 179, 171, 183, 185, 758, 1058, 1059, 1060, 1061, 1146, 1147, 1148, 1149, 204, 173, 180, 181, 1150, 1151, 1152, 1153, 186, 908, 909, 910, 911, 176, 162, 912, 913, 914, 915, 206, 161, 916, 917, 918, 919, 168, 167, 920, 921, 922, 923, 774, 775, 776, 777, 757, 160, 159, 153, 158, 924, 925, 926, 927, 928, 929, 930, 154, 151, 205, 152, 931, 932, 933, 934, 935, 936, 937, 938, 939, 503, 940, 941, 942, 943, 155, 157, 156, 513, 514, 515, 1154, 1155, 1156, 1157, 1645, 1646, 1647, 1648, 216, 1649, 1650, 1789, 1790, 1791, 1792, 1793, 1794, 1795, 1796, 1797, 1798, 1799, 1800, 1801, 1802, 1803, 1804, 1805, 1806, 1807, 1808, 1809, 1810, 1811, 1812, 1813, 1814, 1815, 1816, 1817, 1818, 1819, 1820, 1821, 1822, 1823, 1824, 1825, 1826, 1827, 1828, 1829, 1830, 1831, 1832, 1833, 1834, 1835, 1836, 1837, 1838, 1839, 1840, 1841, 1842, 1843, 1844, 1845, 1846, 1847, 1848, 1849, 1850, 1851, 1852, 1853, 1854, 1855, 1856, 1857, 1858, 1859, 1860, 1861, 1862, 1863, 1864, 1865, 1866, 1867, 1868, 1869, 1870, 1871, 1872, 1873, 1874, 1875, 1876, 1877, 1878, 1879, 1880, 1881, 1882, 1883, 1884, 1885, 1886, 1887, 1888, 1889, 1890, 1891, 1892] (by decide +kernel) (by decide +kernel)
set_option maxRecDepth 20000 in
theorem gL_law_X13_giving : GoodIn wsL_law (wsV RL 185 RX13 yX13_giving wsX13_giving) := goodIn_app (goodIn_of _ (by decide +kernel)) ggL_law_X13_giving
set_option maxRecDepth 20000 in
theorem ggL_law_X12_given : GoodIn wsL_law wsX12_given := goodIn_r _ [1654, 49, 1563, 1564, 1565, 2, 1566, 1567, 1568, 1569, 1570, 1571, 1572, 1573, 1574, 1575, 1576, 1577, 1578, 1098, 1579, 1580, 1581, 48, 1582, 1583, 1584, 1079, 1080, 1081, 1082, 1083, 1050, 1051, 1052, 1053, 1028, 33, 1585, 1586, 1587, 1588, 129, 130, 131, 1589, 1590, 1591, 1592, 877, 1066, 801, 1096, 1593, 878, 879, 880, 881, 882, 712, 713, 714, 715, 665, 29, 1067, 1068, 1069, 277, 1070, 1071, 1072, 1084, 1085, 1086, 1087, 895, 1594, 1595, 1596, 1597, 126, 127, 128, 1598, 1599, 1600, 1601, 1073, 1074, 1075, 1076, 1077, 800, 1049, 1078, 1088, 1089, 1090, 1091, 19, 646, 956, 957, 958, 959, 666, 896, 897, 898, 899, 651, 652, 653, 654, 655, 1092, 1093, 1094, 1095, 1097, 802, 1099, 1100, 1101, 1102, 18, 1103, 76, 1104, 1105, 1106, 1107, 1108, 1109, 1110, 1111, 1112, 1113, 1114, 852, 1115, 1116, 1117, 1118, 1119, 1120, 1121, 1122, 827, 825, 1123, 1124, 677, 678, 679, 680, 72, 681, 682, 683, 684, 660, 73, 685, 686, 687, 688, 75, 74, 689, 690, 691, 601, 692, 693, 694, 695, 696, 697, 698, 699, 700, 77, 701, 702, 703, 704, 705, 706, 707, 92, 708, 709, 710, 711, 1602, 1603, 1604, 1605, 1606, 1607, 1608, 1609, 1610, 1611, 1612, 1613, 1614, 91, 93, 1615, 311, 312, 133, 132, 1616, 1617, 1618, 1619, 1620, 1621, 1622, 1623, 1624, 1625, 1626, 1627, 1628, 1629, 1630, 1631, 1632, 1655, 1656, 1657, 1658, 1659, 1769, 1770, 1771, 1772, 1773, 1774, 1775, 1776, 1777, 1778, 1779, 1780, 1781, 1782, 1783, 1784, 1785, 1786, 1787, 1788, 1983, 1984, 1985, 1986, 1987, 1988, 1948, 1949, 1950, 1951, 1952, 1953, 1954, 1955, 1956, 1957, 1965, 1966, 1967, 1968, 1969, 1970, 1971, 1972, 1973, 1974, 1975, 1976, 1977, 1978, 1979, 1980, 1981, 1982, 1908, 1909, 1910, 1911, 1912, 1913, 1914, 1915, 1961, 1962, 1963, 1964] (by decide +kernel) (by decide +kernel)
set_option maxRecDepth 20000 in
theorem gL_law_X12_given : GoodIn wsL_law (wsV RL 186 RX12 yX12_given wsX12_given) := goodIn_app (goodIn_of _ (by decide +kernel)) ggL_law_X12_given
set_option maxRecDepth 20000 in
theorem ggL_law_X13_given : GoodIn wsL_law wsX13_given := goodIn_r _ [1663, 1650, 1643, 213, 1644, 214, 1638, 1639, 1640, 5, 1641, 1642, 1044, 175, 177, 174, 182, 217, 172, 215, 1637, 244, 245, 246, 1134, 1135, 1136, 1137, 169, 857, 858, 859, 860, 847, 1138, 1139, 1140, 1141, 1142, 1143, 1144, 1145, 1133, 184, 1129, 1130, 1131, 1132, 179, 171, 183, 185, 758, 1058, 1059, 1060, 1061, 1146, 1147, 1148, 1149, 204, 173, 180, 181, 1150, 1151, 1152, 1153, 186, 908, 909, 910, 911, 176, 162, 912, 913, 914, 915, 206, 161, 916, 917, 918, 919, 168, 167, 920, 921, 922, 923, 774, 775, 776, 777, 757, 160, 159, 153, 158, 924, 925, 926, 927, 928, 929, 930, 154, 151, 205, 152, 931, 932, 933, 934, 935, 936, 937, 938, 939, 503, 940, 941, 942, 943, 155, 157, 156, 513, 514, 515, 1154, 1155, 1156, 1157, 1645, 1646, 1647, 1648, 216, 1649, 1789, 1790, 1791, 1792, 1793, 1794, 1795, 1796, 1797, 1798, 1799, 1800, 1801, 1802, 1803, 1804, 1805, 1806, 1807, 1808, 1809, 1810, 1811, 1812, 1813, 1814, 1815, 1816, 1817, 1818, 1819, 1820, 1821, 1822, 1823, 1824, 1825, 1826, 1827, 1828, 1829, 1830, 1831, 1832, 1833, 1834, 1835, 1836, 1837, 1838, 1839, 1840, 1841, 1842, 1843, 1844, 1845, 1846, 1847, 1848, 1849, 1850, 1851, 1852, 1853, 1854, 1855, 1856, 1857, 1858, 1859, 1860, 1861, 1862, 1863, 1864, 1865, 1866, 1867, 1868, 1869, 1870, 1871, 1872, 1873, 1874, 1875, 1876, 1877, 1878, 1879, 1880, 1881, 1882, 1883, 1884, 1885, 1886, 1887, 1888, 1889, 1890, 1891, 1892] (by decide +kernel) (by decide +kernel)
set_option maxRecDepth 20000 in
theorem gL_law_X13_given : GoodIn wsL_law (wsV RL 189 RX13 yX13_given wsX13_given) := goodIn_app (goodIn_of _ (by decide +kernel)) ggL_law_X13_given
set_option maxRecDepth 20000 in
theorem ggL_law_X12_index : GoodIn wsL_law wsX12_index := goodIn_r _ [1667, 1668, 1669, 1350, 1474, 1475, 1476, 2, 1477, 968, 749, 750, 751, 752, 25, 647, 648, 649, 650, 1670, 1671, 1672, 27, 1673, 1393, 89, 1181, 1182, 1183, 1184, 1162, 35, 1352, 1353, 1354, 1355, 1922, 1923, 1924, 1925, 1926, 1927, 1928, 1989, 1990, 1991, 1992, 1993, 1994, 1995, 1996, 1997, 1769, 1770, 1771, 1772, 1773, 1774, 1775, 1776, 1777, 1778, 1779, 1780, 1781, 1782, 1783, 1784, 1785, 1786, 1787, 1788] (by decide +kernel) (by decide +kernel)
set_option maxRecDepth 20000 in
theorem gL_law_X12_index : GoodIn wsL_law (wsV RL 190 RX12 yX12_index wsX12_index) := goodIn_app (goodIn_of _ (by decide +kernel)) ggL_law_X12_index
set_option maxRecDepth 20000 in
theorem ggL_law_X13_index : GoodIn wsL_law wsX13_index := goodIn_r _ [1677, 162, 166, 1133, 177, 184, 191, 189, 759, 760, 5, 761, 244, 245, 246, 1789, 1790, 1791, 1792, 1793, 1794, 1795, 1796, 1797, 1798, 1799, 1800, 1801, 1802, 1803, 1804, 1805, 1806, 1807, 1808, 1809, 1810, 1811, 1812, 1813, 1814, 1815, 1816, 1817, 1818, 1819, 1820, 1821, 1822, 1823, 1824, 1825, 1826, 1827, 1828, 1829, 1830, 1831, 1832, 1833, 1834, 1835, 1836, 1837, 1838, 1839, 1840, 1841, 1842, 1843, 1844, 1845, 1846, 1847, 1848, 1849, 1850, 1851, 1852, 1853, 1854, 1855, 1856, 1857, 1858, 1859, 1860, 1861, 1862, 1863, 1864, 1865, 1866, 1867, 1868, 1869, 1870, 1871, 1872, 1873, 1874, 1875, 1876, 1877, 1878, 1879, 1880, 1881, 1882, 1883, 1884, 1885, 1886, 1887, 1888, 1889, 1890, 1891, 1892] (by decide +kernel) (by decide +kernel)
set_option maxRecDepth 20000 in
theorem gL_law_X13_index : GoodIn wsL_law (wsV RL 193 RX13 yX13_index wsX13_index) := goodIn_app (goodIn_of _ (by decide +kernel)) ggL_law_X13_index
set_option maxRecDepth 20000 in
theorem ggL_law_X12_steal : GoodIn wsL_law wsX12_steal := goodIn_r _ [1681, 53, 1682, 1683, 1684, 52, 1685, 1686, 137, 1769, 1770, 1771, 1772, 1773, 1774, 1775, 1776, 1777, 1778, 1779, 1780, 1781, 1782, 1783, 1784, 1785, 1786, 1787, 1788, 1958, 1959, 1960] (by decide +kernel) (by decide +kernel)
set_option maxRecDepth 20000 in
theorem gL_law_X12_steal : GoodIn wsL_law (wsV RL 194 RX12 yX12_steal wsX12_steal) := goodIn_app (goodIn_of _ (by decide +kernel)) ggL_law_X12_steal
set_option maxRecDepth 20000 in
theorem ggL_law_X13_steal : GoodIn wsL_law wsX13_steal := goodIn_r _ [1690, 1691, 203, 244, 245, 5, 246, 1789, 1790, 1791, 1792, 1793, 1794, 1795, 1796, 1797, 1798, 1799, 1800, 1801, 1802, 1803, 1804, 1805, 1806, 1807, 1808, 1809, 1810, 1811, 1812, 1813, 1814, 1815, 1816, 1817, 1818, 1819, 1820, 1821, 1822, 1823, 1824, 1825, 1826, 1827, 1828, 1829, 1830, 1831, 1832, 1833, 1834, 1835, 1836, 1837, 1838, 1839, 1840, 1841, 1842, 1843, 1844, 1845, 1846, 1847, 1848, 1849, 1850, 1851, 1852, 1853, 1854, 1855, 1856, 1857, 1858, 1859, 1860, 1861, 1862, 1863, 1864, 1865, 1866, 1867, 1868, 1869, 1870, 1871, 1872, 1873, 1874, 1875, 1876, 1877, 1878, 1879, 1880, 1881, 1882, 1883, 1884, 1885, 1886, 1887, 1888, 1889, 1890, 1891, 1892] (by decide +kernel) (by decide +kernel)
set_option maxRecDepth 20000 in
theorem gL_law_X13_steal : GoodIn wsL_law (wsV RL 197 RX13 yX13_steal wsX13_steal) := goodIn_app (goodIn_of _ (by decide +kernel)) ggL_law_X13_steal
set_option maxRecDepth 20000 in
theorem ggL_law_X12_forget : GoodIn wsL_law wsX12_forget := goodIn_r _ [1695, 53, 1696, 1769, 1770, 1771, 1772, 1773, 1774, 1775, 1776, 1777, 1778, 1779, 1780, 1781, 1782, 1783, 1784, 1785, 1786, 1787, 1788, 1958, 1959, 1960] (by decide +kernel) (by decide +kernel)
set_option maxRecDepth 20000 in
theorem gL_law_X12_forget : GoodIn wsL_law (wsV RL 198 RX12 yX12_forget wsX12_forget) := goodIn_app (goodIn_of _ (by decide +kernel)) ggL_law_X12_forget
set_option maxRecDepth 20000 in
theorem ggL_law_X13_forget : GoodIn wsL_law wsX13_forget := goodIn_r _ [1700, 1691, 1789, 1790, 1791, 1792, 1793, 1794, 1795, 1796, 1797, 1798, 1799, 1800, 1801, 1802, 1803, 1804, 1805, 1806, 1807, 1808, 1809, 1810, 1811, 1812, 1813, 1814, 1815, 1816, 1817, 1818, 1819, 1820, 1821, 1822, 1823, 1824, 1825, 1826, 1827, 1828, 1829, 1830, 1831, 1832, 1833, 1834, 1835, 1836, 1837, 1838, 1839, 1840, 1841, 1842, 1843, 1844, 1845, 1846, 1847, 1848, 1849, 1850, 1851, 1852, 1853, 1854, 1855, 1856, 1857, 1858, 1859, 1860, 1861, 1862, 1863, 1864, 1865, 1866, 1867, 1868, 1869, 1870, 1871, 1872, 1873, 1874, 1875, 1876, 1877, 1878, 1879, 1880, 1881, 1882, 1883, 1884, 1885, 1886, 1887, 1888, 1889, 1890, 1891, 1892] (by decide +kernel) (by decide +kernel)
set_option maxRecDepth 20000 in
theorem gL_law_X13_forget : GoodIn wsL_law (wsV RL 201 RX13 yX13_forget wsX13_forget) := goodIn_app (goodIn_of _ (by decide +kernel)) ggL_law_X13_forget
set_option maxRecDepth 20000 in
theorem ggL_law_X12_thief : GoodIn wsL_law wsX12_thief := goodIn_r _ [1704, 53, 1668, 1167, 1202, 39, 646, 1474, 1475, 1476, 2, 1477, 968, 749, 750, 751, 752, 25, 647, 648, 649, 650, 1705, 1706, 1707, 52, 1708, 138, 1670, 1671, 1672, 27, 1673, 1393, 89, 1181, 1182, 1183, 1184, 1162, 35, 1173, 1174, 1175, 38, 1176, 100, 1177, 1178, 1179, 1180, 99, 102, 103, 1709, 1710, 1711, 1712, 1686, 137, 1713, 91, 92, 93, 1714, 1715, 1716, 1717, 1718, 1719, 1720, 1721, 1722, 1723, 1724, 1725, 1726, 1769, 1770, 1771, 1772, 1773, 1774, 1775, 1776, 1777, 1778, 1779, 1780, 1781, 1782, 1783, 1784, 1785, 1786, 1787, 1788, 1922, 1923, 1924, 1925, 1926, 1927, 1928, 1989, 1990, 1991, 1992, 1993, 1994, 1995, 1996, 1997, 1958, 1959, 1960, 1929, 1930, 1931, 1932, 1933, 1934, 1935, 1936, 1937, 1938, 1939, 1940] (by decide +kernel) (by decide +kernel)
set_option maxRecDepth 20000 in
theorem gL_law_X12_thief : GoodIn wsL_law (wsV RL 202 RX12 yX12_thief wsX12_thief) := goodIn_app (goodIn_of _ (by decide +kernel)) ggL_law_X12_thief
set_option maxRecDepth 20000 in
theorem ggL_law_X13_thief : GoodIn wsL_law wsX13_thief := goodIn_r _ [1730, 162, 1133, 177, 184, 191, 192, 186, 218, 1691, 219, 220, 759, 760, 5, 761, 244, 245, 246, 1731, 1732, 1733, 1734, 203, 188, 758, 1208, 1209, 1210, 1211, 194, 1212, 1213, 1214, 1215, 1216, 193, 196, 1735, 1736, 1737, 1738, 1789, 1790, 1791, 1792, 1793, 1794, 1795, 1796, 1797, 1798, 1799, 1800, 1801, 1802, 1803, 1804, 1805, 1806, 1807, 1808, 1809, 1810, 1811, 1812, 1813, 1814, 1815, 1816, 1817, 1818, 1819, 1820, 1821, 1822, 1823, 1824, 1825, 1826, 1827, 1828, 1829, 1830, 1831, 1832, 1833, 1834, 1835, 1836, 1837, 1838, 1839, 1840, 1841, 1842, 1843, 1844, 1845, 1846, 1847, 1848, 1849, 1850, 1851, 1852, 1853, 1854, 1855, 1856, 1857, 1858, 1859, 1860, 1861, 1862, 1863, 1864, 1865, 1866, 1867, 1868, 1869, 1870, 1871, 1872, 1873, 1874, 1875, 1876, 1877, 1878, 1879, 1880, 1881, 1882, 1883, 1884, 1885, 1886, 1887, 1888, 1889, 1890, 1891, 1892] (by decide +kernel) (by decide +kernel)
set_option maxRecDepth 20000 in
theorem gL_law_X13_thief : GoodIn wsL_law (wsV RL 205 RX13 yX13_thief wsX13_thief) := goodIn_app (goodIn_of _ (by decide +kernel)) ggL_law_X13_thief
set_option maxRecDepth 20000 in
theorem ggL_law_X12_is : GoodIn wsL_law wsX12_is := goodIn_r _ [1742, 882, 1096, 877, 666, 712, 713, 714, 2, 715, 665, 29, 1084, 1085, 1086, 1087, 895, 896, 897, 898, 899, 651, 652, 653, 654, 655, 1743, 1744, 1745, 1746, 799, 800, 801, 1066, 1067, 1068, 1069, 277, 1070, 1071, 1072, 1233, 1234, 1235, 1236, 1083, 1050, 1051, 1052, 1053, 1028, 33, 1119, 1120, 1121, 1122, 827, 825, 1123, 1965, 1966, 1967, 1968, 1969, 1970, 1971, 1972, 1973, 1974, 1975, 1976, 1977, 1978, 1979, 1980, 1981, 1982, 1769, 1770, 1771, 1772, 1773, 1774, 1775, 1776, 1777, 1778, 1779, 1780, 1781, 1782, 1783, 1784, 1785, 1786, 1787, 1788, 1983, 1984, 1985, 1986, 1987, 1988] (by decide +kernel) (by decide +kernel)
set_option maxRecDepth 20000 in
theorem gL_law_X12_is : GoodIn wsL_law (wsV RL 206 RX12 yX12_is wsX12_is) := goodIn_app (goodIn_of _ (by decide +kernel)) ggL_law_X12_is
set_option maxRecDepth 20000 in
theorem ggL_law_X13_is : GoodIn wsL_law wsX13_is := goodIn_r _ [1750, 169, 170, 171, 172, 174, 175, 177, 857, 858, 859, 5, 860, 847, 244, 245, 246, 1142, 1143, 1144, 1145, 1133, 184, 1138, 1139, 1140, 1141, 908, 909, 910, 911, 176, 162, 912, 913, 914, 915, 206, 758, 161, 916, 917, 918, 919, 168, 167, 920, 921, 922, 923, 774, 775, 776, 777, 757, 160, 159, 153, 158, 924, 925, 926, 927, 928, 929, 930, 154, 151, 205, 152, 204, 931, 932, 933, 934, 935, 936, 937, 938, 939, 503, 940, 941, 942, 943, 155, 157, 156, 513, 514, 515, 1225, 1226, 1227, 1228, 182, 1789, 1790, 1791, 1792, 1793, 1794, 1795, 1796, 1797, 1798, 1799, 1800, 1801, 1802, 1803, 1804, 1805, 1806, 1807, 1808, 1809, 1810, 1811, 1812, 1813, 1814, 1815, 1816, 1817, 1818, 1819, 1820, 1821, 1822, 1823, 1824, 1825, 1826, 1827, 1828, 1829, 1830, 1831, 1832, 1833, 1834, 1835, 1836, 1837, 1838, 1839, 1840, 1841, 1842, 1843, 1844, 1845, 1846, 1847, 1848, 1849, 1850, 1851, 1852, 1853, 1854, 1855, 1856, 1857, 1858, 1859, 1860, 1861, 1862, 1863, 1864, 1865, 1866, 1867, 1868, 1869, 1870, 1871, 1872, 1873, 1874, 1875, 1876, 1877, 1878, 1879, 1880, 1881, 1882, 1883, 1884, 1885, 1886, 1887, 1888, 1889, 1890, 1891, 1892] (by decide +kernel) (by decide +kernel)
set_option maxRecDepth 20000 in
theorem gL_law_X13_is : GoodIn wsL_law (wsV RL 209 RX13 yX13_is wsX13_is) := goodIn_app (goodIn_of _ (by decide +kernel)) ggL_law_X13_is
set_option maxRecDepth 20000 in
theorem ggL_law_X12_count : GoodIn wsL_law wsX12_count := goodIn_r _ [1754, 646, 665, 1028, 1162, 19, 1755, 39, 1756, 655, 15, 225, 1757, 1758, 1759, 2, 1760, 1168, 1050, 1051, 1052, 1053, 33, 1761, 1762, 1763, 1764, 1083, 1769, 1770, 1771, 1772, 1773, 1774, 1775, 1776, 1777, 1778, 1779, 1780, 1781, 1782, 1783, 1784, 1785, 1786, 1787, 1788, 1908, 1909, 1910, 1911, 1912, 1913, 1914, 1915, 1929, 1930, 1931, 1932, 1933, 1934, 1935, 1936, 1937, 1938, 1939, 1940, 1893, 1894, 1895, 1896, 1897, 1898, 1899, 1900, 1901, 1902, 1903, 1904, 1905, 1906, 1907, 1983, 1984, 1985, 1986, 1987, 1988] (by decide +kernel) (by decide +kernel)
set_option maxRecDepth 20000 in
theorem gL_law_X12_count : GoodIn wsL_law (wsV RL 210 RX12 yX12_count wsX12_count) := goodIn_app (goodIn_of _ (by decide +kernel)) ggL_law_X12_count
set_option maxRecDepth 20000 in
theorem ggL_law_X13_count : GoodIn wsL_law wsX13_count := goodIn_r _ [1768, 1044, 1133, 185, 190, 182, 758, 847, 641, 1295, 162, 235, 244, 245, 5, 246, 1789, 1790, 1791, 1792, 1793, 1794, 1795, 1796, 1797, 1798, 1799, 1800, 1801, 1802, 1803, 1804, 1805, 1806, 1807, 1808, 1809, 1810, 1811, 1812, 1813, 1814, 1815, 1816, 1817, 1818, 1819, 1820, 1821, 1822, 1823, 1824, 1825, 1826, 1827, 1828, 1829, 1830, 1831, 1832, 1833, 1834, 1835, 1836, 1837, 1838, 1839, 1840, 1841, 1842, 1843, 1844, 1845, 1846, 1847, 1848, 1849, 1850, 1851, 1852, 1853, 1854, 1855, 1856, 1857, 1858, 1859, 1860, 1861, 1862, 1863, 1864, 1865, 1866, 1867, 1868, 1869, 1870, 1871, 1872, 1873, 1874, 1875, 1876, 1877, 1878, 1879, 1880, 1881, 1882, 1883, 1884, 1885, 1886, 1887, 1888, 1889, 1890, 1891, 1892] (by decide +kernel) (by decide +kernel)
set_option maxRecDepth 20000 in
theorem gL_law_X13_count : GoodIn wsL_law (wsV RL 213 RX13 yX13_count wsX13_count) := goodIn_app (goodIn_of _ (by decide +kernel)) ggL_law_X13_count
theorem dL_law_0 : decode cL_law 0 = .ok (.new 7, 3) := by decide +kernel
theorem dL_law_3 : decode cL_law 3 = .ok (.dup, 1) := by decide +kernel
theorem dL_law_4 : decode cL_law 4 = .ok (.invokespecial 9, 3) := by decide +kernel
theorem dL_law_7 : decode cL_law 7 = .ok (.astore_n 1, 1) := by decide +kernel
theorem dL_law_8 : decode cL_law 8 = .ok (.new 10, 3) := by decide +kernel
theorem dL_law_11 : decode cL_law 11 = .ok (.dup, 1) := by decide +kernel
theorem dL_law_12 : decode cL_law 12 = .ok (.invokespecial 12, 3) := by decide +kernel
theorem dL_law_15 : decode cL_law 15 = .ok (.astore_n 2, 1) := by decide +kernel
theorem dL_law_16 : decode cL_law 16 = .ok (.iconst 0, 1) := by decide +kernel
theorem dL_law_17 : decode cL_law 17 = .ok (.istore_n 3, 1) := by decide +kernel
theorem dL_law_18 : decode cL_law 18 = .ok (.iload_n 3, 1) := by decide +kernel
theorem dL_law_19 : decode cL_law 19 = .ok (.aload_n 0, 1) := by decide +kernel
theorem dL_law_20 : decode cL_law 20 = .ok (.arraylength, 1) := by decide +kernel
theorem dL_law_21 : decode cL_law 21 = .ok (.bipush 6, 2) := by decide +kernel
theorem dL_law_23 : decode cL_law 23 = .ok (.isub, 1) := by decide +kernel
theorem dL_law_24 : decode cL_law 24 = .ok (.if_icmp .gt 1786, 3) := by decide +kernel
theorem dL_law_27 : decode cL_law 27 = .ok (.aload_n 0, 1) := by decide +kernel
theorem dL_law_28 : decode cL_law 28 = .ok (.iload_n 3, 1) := by decide +kernel
theorem dL_law_29 : decode cL_law 29 = .ok (.iaload, 1) := by decide +kernel
theorem dL_law_30 : decode cL_law 30 = .ok (.bipush 63, 2) := by decide +kernel
theorem dL_law_32 : decode cL_law 32 = .ok (.iand, 1) := by decide +kernel
theorem dL_law_33 : decode cL_law 33 = .ok (.tableswitch 1771 0 47 #[207, 270, 293, 306, 319, 352, 395, 418, 451, 504, 557, 620, 653, 676, 699, 722, 755, 788, 831, 864, 897, 940, 963, 986, 1029, 1072, 1105, 1128, 1151, 1194, 1217, 1250, 1273, 1296, 1319, 1342, 1365, 1408, 1441, 1474, 1507, 1550, 1603, 1646, 1669, 1682, 1715, 1748], 207) := by decide +kernel
theorem dL_law_240 : decode cL_law 240 = .ok (.aload_n 1, 1) := by decide +kernel
theorem dL_law_241 : decode cL_law 241 = .ok (.aload_n 0, 1) := by decide +kernel
theorem dL_law_242 : decode cL_law 242 = .ok (.iload_n 3, 1) := by decide +kernel
theorem dL_law_243 : decode cL_law 243 = .ok (.iconst 1, 1) := by decide +kernel
theorem dL_law_244 : decode cL_law 244 = .ok (.iadd, 1) := by decide +kernel
theorem dL_law_245 : decode cL_law 245 = .ok (.iaload, 1) := by decide +kernel
theorem dL_law_246 : decode cL_law 246 = .ok (.aload_n 0, 1) := by decide +kernel
theorem dL_law_247 : decode cL_law 247 = .ok (.iload_n 3, 1) := by decide +kernel
theorem dL_law_248 : decode cL_law 248 = .ok (.iconst 2, 1) := by decide +kernel
theorem dL_law_249 : decode cL_law 249 = .ok (.iadd, 1) := by decide +kernel
theorem dL_law_250 : decode cL_law 250 = .ok (.iaload, 1) := by decide +kernel
theorem dL_law_251 : decode cL_law 251 = .ok (.aload_n 0, 1) := by decide +kernel
theorem dL_law_252 : decode cL_law 252 = .ok (.iload_n 3, 1) := by decide +kernel
theorem dL_law_253 : decode cL_law 253 = .ok (.iconst 3, 1) := by decide +kernel
theorem dL_law_254 : decode cL_law 254 = .ok (.iadd, 1) := by decide +kernel
theorem dL_law_255 : decode cL_law 255 = .ok (.iaload, 1) := by decide +kernel
theorem dL_law_256 : decode cL_law 256 = .ok (.aload_n 0, 1) := by decide +kernel
theorem dL_law_257 : decode cL_law 257 = .ok (.iload_n 3, 1) := by decide +kernel
theorem dL_law_258 : decode cL_law 258 = .ok (.iconst 4, 1) := by decide +kernel
theorem dL_law_259 : decode cL_law 259 = .ok (.iadd, 1) := by decide +kernel
theorem dL_law_260 : decode cL_law 260 = .ok (.iaload, 1) := by decide +kernel
theorem dL_law_261 : decode cL_law 261 = .ok (.aload_n 0, 1) := by decide +kernel
theorem dL_law_262 : decode cL_law 262 = .ok (.iload_n 3, 1) := by decide +kernel
theorem dL_law_263 : decode cL_law 263 = .ok (.iconst 5, 1) := by decide +kernel
theorem dL_law_264 : decode cL_law 264 = .ok (.iadd, 1) := by decide +kernel
theorem dL_law_265 : decode cL_law 265 = .ok (.iaload, 1) := by decide +kernel
theorem dL_law_266 : decode cL_law 266 = .ok (.invokevirtual 13, 3) := by decide +kernel
theorem dL_law_269 : decode cL_law 269 = .ok (.aload_n 2, 1) := by decide +kernel
theorem dL_law_270 : decode cL_law 270 = .ok (.aload_n 0, 1) := by decide +kernel
theorem dL_law_271 : decode cL_law 271 = .ok (.iload_n 3, 1) := by decide +kernel
theorem dL_law_272 : decode cL_law 272 = .ok (.iconst 1, 1) := by decide +kernel
theorem dL_law_273 : decode cL_law 273 = .ok (.iadd, 1) := by decide +kernel
theorem dL_law_274 : decode cL_law 274 = .ok (.iaload, 1) := by decide +kernel
theorem dL_law_275 : decode cL_law 275 = .ok (.aload_n 0, 1) := by decide +kernel
theorem dL_law_276 : decode cL_law 276 = .ok (.iload_n 3, 1) := by decide +kernel
theorem dL_law_277 : decode cL_law 277 = .ok (.iconst 2, 1) := by decide +kernel
theorem dL_law_278 : decode cL_law 278 = .ok (.iadd, 1) := by decide +kernel
theorem dL_law_279 : decode cL_law 279 = .ok (.iaload, 1) := by decide +kernel
theorem dL_law_280 : decode cL_law 280 = .ok (.aload_n 0, 1) := by decide +kernel
theorem dL_law_281 : decode cL_law 281 = .ok (.iload_n 3, 1) := by decide +kernel
theorem dL_law_282 : decode cL_law 282 = .ok (.iconst 3, 1) := by decide +kernel
theorem dL_law_283 : decode cL_law 283 = .ok (.iadd, 1) := by decide +kernel
theorem dL_law_284 : decode cL_law 284 = .ok (.iaload, 1) := by decide +kernel
theorem dL_law_285 : decode cL_law 285 = .ok (.aload_n 0, 1) := by decide +kernel
theorem dL_law_286 : decode cL_law 286 = .ok (.iload_n 3, 1) := by decide +kernel
theorem dL_law_287 : decode cL_law 287 = .ok (.iconst 4, 1) := by decide +kernel
theorem dL_law_288 : decode cL_law 288 = .ok (.iadd, 1) := by decide +kernel
theorem dL_law_289 : decode cL_law 289 = .ok (.iaload, 1) := by decide +kernel
theorem dL_law_290 : decode cL_law 290 = .ok (.aload_n 0, 1) := by decide +kernel
theorem dL_law_291 : decode cL_law 291 = .ok (.iload_n 3, 1) := by decide +kernel
theorem dL_law_292 : decode cL_law 292 = .ok (.iconst 5, 1) := by decide +kernel
theorem dL_law_293 : decode cL_law 293 = .ok (.iadd, 1) := by decide +kernel
theorem dL_law_294 : decode cL_law 294 = .ok (.iaload, 1) := by decide +kernel
theorem dL_law_295 : decode cL_law 295 = .ok (.invokevirtual 17, 3) := by decide +kernel
theorem dL_law_298 : decode cL_law 298 = .ok (.if_icmp .eq 1506, 3) := by decide +kernel
theorem dL_law_301 : decode cL_law 301 = .ok (.iconst 0, 1) := by decide +kernel
theorem dL_law_302 : decode cL_law 302 = .ok (.ireturn, 1) := by decide +kernel
theorem dL_law_303 : decode cL_law 303 = .ok (.aload_n 1, 1) := by decide +kernel
theorem dL_law_304 : decode cL_law 304 = .ok (.aload_n 0, 1) := by decide +kernel
theorem dL_law_305 : decode cL_law 305 = .ok (.iload_n 3, 1) := by decide +kernel
theorem dL_law_306 : decode cL_law 306 = .ok (.iconst 1, 1) := by decide +kernel
theorem dL_law_307 : decode cL_law 307 = .ok (.iadd, 1) := by decide +kernel
theorem dL_law_308 : decode cL_law 308 = .ok (.iaload, 1) := by decide +kernel
theorem dL_law_309 : decode cL_law 309 = .ok (.invokevirtual 18, 3) := by decide +kernel
theorem dL_law_312 : decode cL_law 312 = .ok (.aload_n 2, 1) := by decide +kernel
theorem dL_law_313 : decode cL_law 313 = .ok (.aload_n 0, 1) := by decide +kernel
theorem dL_law_314 : decode cL_law 314 = .ok (.iload_n 3, 1) := by decide +kernel
theorem dL_law_315 : decode cL_law 315 = .ok (.iconst 1, 1) := by decide +kernel
theorem dL_law_316 : decode cL_law 316 = .ok (.iadd, 1) := by decide +kernel
theorem dL_law_317 : decode cL_law 317 = .ok (.iaload, 1) := by decide +kernel
theorem dL_law_318 : decode cL_law 318 = .ok (.invokevirtual 22, 3) := by decide +kernel
theorem dL_law_321 : decode cL_law 321 = .ok (.if_icmp .eq 1483, 3) := by decide +kernel
theorem dL_law_324 : decode cL_law 324 = .ok (.iconst 0, 1) := by decide +kernel
theorem dL_law_325 : decode cL_law 325 = .ok (.ireturn, 1) := by decide +kernel
theorem dL_law_326 : decode cL_law 326 = .ok (.aload_n 1, 1) := by decide +kernel
theorem dL_law_327 : decode cL_law 327 = .ok (.invokevirtual 23, 3) := by decide +kernel
theorem dL_law_330 : decode cL_law 330 = .ok (.aload_n 2, 1) := by decide +kernel
theorem dL_law_331 : decode cL_law 331 = .ok (.invokevirtual 27, 3) := by decide +kernel
theorem dL_law_334 : decode cL_law 334 = .ok (.if_icmp .eq 1470, 3) := by decide +kernel
theorem dL_law_337 : decode cL_law 337 = .ok (.iconst 0, 1) := by decide +kernel
theorem dL_law_338 : decode cL_law 338 = .ok (.ireturn, 1) := by decide +kernel
theorem dL_law_339 : decode cL_law 339 = .ok (.aload_n 1, 1) := by decide +kernel
theorem dL_law_340 : decode cL_law 340 = .ok (.invokevirtual 28, 3) := by decide +kernel
theorem dL_law_343 : decode cL_law 343 = .ok (.aload_n 2, 1) := by decide +kernel
theorem dL_law_344 : decode cL_law 344 = .ok (.invokevirtual 31, 3) := by decide +kernel
theorem dL_law_347 : decode cL_law 347 = .ok (.if_icmp .eq 1457, 3) := by decide +kernel
theorem dL_law_350 : decode cL_law 350 = .ok (.iconst 0, 1) := by decide +kernel
theorem dL_law_351 : decode cL_law 351 = .ok (.ireturn, 1) := by decide +kernel
theorem dL_law_352 : decode cL_law 352 = .ok (.aload_n 1, 1) := by decide +kernel
theorem dL_law_353 : decode cL_law 353 = .ok (.aload_n 0, 1) := by decide +kernel
theorem dL_law_354 : decode cL_law 354 = .ok (.iload_n 3, 1) := by decide +kernel
theorem dL_law_355 : decode cL_law 355 = .ok (.iconst 1, 1) := by decide +kernel
theorem dL_law_356 : decode cL_law 356 = .ok (.iadd, 1) := by decide +kernel
theorem dL_law_357 : decode cL_law 357 = .ok (.iaload, 1) := by decide +kernel
theorem dL_law_358 : decode cL_law 358 = .ok (.aload_n 0, 1) := by decide +kernel
theorem dL_law_359 : decode cL_law 359 = .ok (.iload_n 3, 1) := by decide +kernel
theorem dL_law_360 : decode cL_law 360 = .ok (.iconst 2, 1) := by decide +kernel
theorem dL_law_361 : decode cL_law 361 = .ok (.iadd, 1) := by decide +kernel
theorem dL_law_362 : decode cL_law 362 = .ok (.iaload, 1) := by decide +kernel
theorem dL_law_363 : decode cL_law 363 = .ok (.invokevirtual 32, 3) := by decide +kernel
theorem dL_law_366 : decode cL_law 366 = .ok (.aload_n 2, 1) := by decide +kernel
theorem dL_law_367 : decode cL_law 367 = .ok (.aload_n 0, 1) := by decide +kernel
theorem dL_law_368 : decode cL_law 368 = .ok (.iload_n 3, 1) := by decide +kernel
theorem dL_law_369 : decode cL_law 369 = .ok (.iconst 1, 1) := by decide +kernel
theorem dL_law_370 : decode cL_law 370 = .ok (.iadd, 1) := by decide +kernel
theorem dL_law_371 : decode cL_law 371 = .ok (.iaload, 1) := by decide +kernel
theorem dL_law_372 : decode cL_law 372 = .ok (.aload_n 0, 1) := by decide +kernel
theorem dL_law_373 : decode cL_law 373 = .ok (.iload_n 3, 1) := by decide +kernel
theorem dL_law_374 : decode cL_law 374 = .ok (.iconst 2, 1) := by decide +kernel
theorem dL_law_375 : decode cL_law 375 = .ok (.iadd, 1) := by decide +kernel
theorem dL_law_376 : decode cL_law 376 = .ok (.iaload, 1) := by decide +kernel
theorem dL_law_377 : decode cL_law 377 = .ok (.invokevirtual 36, 3) := by decide +kernel
theorem dL_law_380 : decode cL_law 380 = .ok (.if_icmp .eq 1424, 3) := by decide +kernel
theorem dL_law_383 : decode cL_law 383 = .ok (.iconst 0, 1) := by decide +kernel
theorem dL_law_384 : decode cL_law 384 = .ok (.ireturn, 1) := by decide +kernel
theorem dL_law_385 : decode cL_law 385 = .ok (.aload_n 1, 1) := by decide +kernel
theorem dL_law_386 : decode cL_law 386 = .ok (.aload_n 0, 1) := by decide +kernel
theorem dL_law_387 : decode cL_law 387 = .ok (.iload_n 3, 1) := by decide +kernel
theorem dL_law_388 : decode cL_law 388 = .ok (.iconst 1, 1) := by decide +kernel
theorem dL_law_389 : decode cL_law 389 = .ok (.iadd, 1) := by decide +kernel
theorem dL_law_390 : decode cL_law 390 = .ok (.iaload, 1) := by decide +kernel
theorem dL_law_391 : decode cL_law 391 = .ok (.aload_n 0, 1) := by decide +kernel
theorem dL_law_392 : decode cL_law 392 = .ok (.iload_n 3, 1) := by decide +kernel
theorem dL_law_393 : decode cL_law 393 = .ok (.iconst 2, 1) := by decide +kernel
theorem dL_law_394 : decode cL_law 394 = .ok (.iadd, 1) := by decide +kernel
theorem dL_law_395 : decode cL_law 395 = .ok (.iaload, 1) := by decide +kernel
theorem dL_law_396 : decode cL_law 396 = .ok (.aload_n 0, 1) := by decide +kernel
theorem dL_law_397 : decode cL_law 397 = .ok (.iload_n 3, 1) := by decide +kernel
theorem dL_law_398 : decode cL_law 398 = .ok (.iconst 3, 1) := by decide +kernel
theorem dL_law_399 : decode cL_law 399 = .ok (.iadd, 1) := by decide +kernel
theorem dL_law_400 : decode cL_law 400 = .ok (.iaload, 1) := by decide +kernel
theorem dL_law_401 : decode cL_law 401 = .ok (.invokevirtual 37, 3) := by decide +kernel
theorem dL_law_404 : decode cL_law 404 = .ok (.aload_n 2, 1) := by decide +kernel
theorem dL_law_405 : decode cL_law 405 = .ok (.aload_n 0, 1) := by decide +kernel
theorem dL_law_406 : decode cL_law 406 = .ok (.iload_n 3, 1) := by decide +kernel
theorem dL_law_407 : decode cL_law 407 = .ok (.iconst 1, 1) := by decide +kernel
theorem dL_law_408 : decode cL_law 408 = .ok (.iadd, 1) := by decide +kernel
theorem dL_law_409 : decode cL_law 409 = .ok (.iaload, 1) := by decide +kernel
theorem dL_law_410 : decode cL_law 410 = .ok (.aload_n 0, 1) := by decide +kernel
theorem dL_law_411 : decode cL_law 411 = .ok (.iload_n 3, 1) := by decide +kernel
theorem dL_law_412 : decode cL_law 412 = .ok (.iconst 2, 1) := by decide +kernel
theorem dL_law_413 : decode cL_law 413 = .ok (.iadd, 1) := by decide +kernel
theorem dL_law_414 : decode cL_law 414 = .ok (.iaload, 1) := by decide +kernel
theorem dL_law_415 : decode cL_law 415 = .ok (.aload_n 0, 1) := by decide +kernel
theorem dL_law_416 : decode cL_law 416 = .ok (.iload_n 3, 1) := by decide +kernel
theorem dL_law_417 : decode cL_law 417 = .ok (.iconst 3, 1) := by decide +kernel
theorem dL_law_418 : decode cL_law 418 = .ok (.iadd, 1) := by decide +kernel
theorem dL_law_419 : decode cL_law 419 = .ok (.iaload, 1) := by decide +kernel
theorem dL_law_420 : decode cL_law 420 = .ok (.invokevirtual 41, 3) := by decide +kernel
theorem dL_law_423 : decode cL_law 423 = .ok (.if_icmp .eq 1381, 3) := by decide +kernel
theorem dL_law_426 : decode cL_law 426 = .ok (.iconst 0, 1) := by decide +kernel
theorem dL_law_427 : decode cL_law 427 = .ok (.ireturn, 1) := by decide +kernel
theorem dL_law_428 : decode cL_law 428 = .ok (.aload_n 1, 1) := by decide +kernel
theorem dL_law_429 : decode cL_law 429 = .ok (.aload_n 0, 1) := by decide +kernel
theorem dL_law_430 : decode cL_law 430 = .ok (.iload_n 3, 1) := by decide +kernel
theorem dL_law_431 : decode cL_law 431 = .ok (.iconst 1, 1) := by decide +kernel
theorem dL_law_432 : decode cL_law 432 = .ok (.iadd, 1) := by decide +kernel
theorem dL_law_433 : decode cL_law 433 = .ok (.iaload, 1) := by decide +kernel
theorem dL_law_434 : decode cL_law 434 = .ok (.invokevirtual 42, 3) := by decide +kernel
theorem dL_law_437 : decode cL_law 437 = .ok (.aload_n 2, 1) := by decide +kernel
theorem dL_law_438 : decode cL_law 438 = .ok (.aload_n 0, 1) := by decide +kernel
theorem dL_law_439 : decode cL_law 439 = .ok (.iload_n 3, 1) := by decide +kernel
theorem dL_law_440 : decode cL_law 440 = .ok (.iconst 1, 1) := by decide +kernel
theorem dL_law_441 : decode cL_law 441 = .ok (.iadd, 1) := by decide +kernel
theorem dL_law_442 : decode cL_law 442 = .ok (.iaload, 1) := by decide +kernel
theorem dL_law_443 : decode cL_law 443 = .ok (.invokevirtual 46, 3) := by decide +kernel
theorem dL_law_446 : decode cL_law 446 = .ok (.if_icmp .eq 1358, 3) := by decide +kernel
theorem dL_law_449 : decode cL_law 449 = .ok (.iconst 0, 1) := by decide +kernel
theorem dL_law_450 : decode cL_law 450 = .ok (.ireturn, 1) := by decide +kernel
theorem dL_law_451 : decode cL_law 451 = .ok (.aload_n 1, 1) := by decide +kernel
theorem dL_law_452 : decode cL_law 452 = .ok (.aload_n 0, 1) := by decide +kernel
theorem dL_law_453 : decode cL_law 453 = .ok (.iload_n 3, 1) := by decide +kernel
theorem dL_law_454 : decode cL_law 454 = .ok (.iconst 1, 1) := by decide +kernel
theorem dL_law_455 : decode cL_law 455 = .ok (.iadd, 1) := by decide +kernel
theorem dL_law_456 : decode cL_law 456 = .ok (.iaload, 1) := by decide +kernel
theorem dL_law_457 : decode cL_law 457 = .ok (.aload_n 0, 1) := by decide +kernel
theorem dL_law_458 : decode cL_law 458 = .ok (.iload_n 3, 1) := by decide +kernel
theorem dL_law_459 : decode cL_law 459 = .ok (.iconst 2, 1) := by decide +kernel
theorem dL_law_460 : decode cL_law 460 = .ok (.iadd, 1) := by decide +kernel
theorem dL_law_461 : decode cL_law 461 = .ok (.iaload, 1) := by decide +kernel
theorem dL_law_462 : decode cL_law 462 = .ok (.invokevirtual 47, 3) := by decide +kernel
theorem dL_law_465 : decode cL_law 465 = .ok (.aload_n 2, 1) := by decide +kernel
theorem dL_law_466 : decode cL_law 466 = .ok (.aload_n 0, 1) := by decide +kernel
theorem dL_law_467 : decode cL_law 467 = .ok (.iload_n 3, 1) := by decide +kernel
theorem dL_law_468 : decode cL_law 468 = .ok (.iconst 1, 1) := by decide +kernel
theorem dL_law_469 : decode cL_law 469 = .ok (.iadd, 1) := by decide +kernel
theorem dL_law_470 : decode cL_law 470 = .ok (.iaload, 1) := by decide +kernel
theorem dL_law_471 : decode cL_law 471 = .ok (.aload_n 0, 1) := by decide +kernel
theorem dL_law_472 : decode cL_law 472 = .ok (.iload_n 3, 1) := by decide +kernel
theorem dL_law_473 : decode cL_law 473 = .ok (.iconst 2, 1) := by decide +kernel
theorem dL_law_474 : decode cL_law 474 = .ok (.iadd, 1) := by decide +kernel
theorem dL_law_475 : decode cL_law 475 = .ok (.iaload, 1) := by decide +kernel
theorem dL_law_476 : decode cL_law 476 = .ok (.invokevirtual 51, 3) := by decide +kernel
theorem dL_law_479 : decode cL_law 479 = .ok (.if_icmp .eq 1325, 3) := by decide +kernel
theorem dL_law_482 : decode cL_law 482 = .ok (.iconst 0, 1) := by decide +kernel
theorem dL_law_483 : decode cL_law 483 = .ok (.ireturn, 1) := by decide +kernel
theorem dL_law_484 : decode cL_law 484 = .ok (.aload_n 1, 1) := by decide +kernel
theorem dL_law_485 : decode cL_law 485 = .ok (.aload_n 0, 1) := by decide +kernel
theorem dL_law_486 : decode cL_law 486 = .ok (.iload_n 3, 1) := by decide +kernel
theorem dL_law_487 : decode cL_law 487 = .ok (.iconst 1, 1) := by decide +kernel
theorem dL_law_488 : decode cL_law 488 = .ok (.iadd, 1) := by decide +kernel
theorem dL_law_489 : decode cL_law 489 = .ok (.iaload, 1) := by decide +kernel
theorem dL_law_490 : decode cL_law 490 = .ok (.aload_n 0, 1) := by decide +kernel
theorem dL_law_491 : decode cL_law 491 = .ok (.iload_n 3, 1) := by decide +kernel
theorem dL_law_492 : decode cL_law 492 = .ok (.iconst 2, 1) := by decide +kernel
theorem dL_law_493 : decode cL_law 493 = .ok (.iadd, 1) := by decide +kernel
theorem dL_law_494 : decode cL_law 494 = .ok (.iaload, 1) := by decide +kernel
theorem dL_law_495 : decode cL_law 495 = .ok (.aload_n 0, 1) := by decide +kernel
theorem dL_law_496 : decode cL_law 496 = .ok (.iload_n 3, 1) := by decide +kernel
theorem dL_law_497 : decode cL_law 497 = .ok (.iconst 3, 1) := by decide +kernel
theorem dL_law_498 : decode cL_law 498 = .ok (.iadd, 1) := by decide +kernel
theorem dL_law_499 : decode cL_law 499 = .ok (.iaload, 1) := by decide +kernel
theorem dL_law_500 : decode cL_law 500 = .ok (.aload_n 0, 1) := by decide +kernel
theorem dL_law_501 : decode cL_law 501 = .ok (.iload_n 3, 1) := by decide +kernel
theorem dL_law_502 : decode cL_law 502 = .ok (.iconst 4, 1) := by decide +kernel
theorem dL_law_503 : decode cL_law 503 = .ok (.iadd, 1) := by decide +kernel
theorem dL_law_504 : decode cL_law 504 = .ok (.iaload, 1) := by decide +kernel
theorem dL_law_505 : decode cL_law 505 = .ok (.invokevirtual 52, 3) := by decide +kernel
theorem dL_law_508 : decode cL_law 508 = .ok (.aload_n 2, 1) := by decide +kernel
theorem dL_law_509 : decode cL_law 509 = .ok (.aload_n 0, 1) := by decide +kernel
theorem dL_law_510 : decode cL_law 510 = .ok (.iload_n 3, 1) := by decide +kernel
theorem dL_law_511 : decode cL_law 511 = .ok (.iconst 1, 1) := by decide +kernel
theorem dL_law_512 : decode cL_law 512 = .ok (.iadd, 1) := by decide +kernel
theorem dL_law_513 : decode cL_law 513 = .ok (.iaload, 1) := by decide +kernel
theorem dL_law_514 : decode cL_law 514 = .ok (.aload_n 0, 1) := by decide +kernel
theorem dL_law_515 : decode cL_law 515 = .ok (.iload_n 3, 1) := by decide +kernel
theorem dL_law_516 : decode cL_law 516 = .ok (.iconst 2, 1) := by decide +kernel
theorem dL_law_517 : decode cL_law 517 = .ok (.iadd, 1) := by decide +kernel
theorem dL_law_518 : decode cL_law 518 = .ok (.iaload, 1) := by decide +kernel
theorem dL_law_519 : decode cL_law 519 = .ok (.aload_n 0, 1) := by decide +kernel
theorem dL_law_520 : decode cL_law 520 = .ok (.iload_n 3, 1) := by decide +kernel
theorem dL_law_521 : decode cL_law 521 = .ok (.iconst 3, 1) := by decide +kernel
theorem dL_law_522 : decode cL_law 522 = .ok (.iadd, 1) := by decide +kernel
theorem dL_law_523 : decode cL_law 523 = .ok (.iaload, 1) := by decide +kernel
theorem dL_law_524 : decode cL_law 524 = .ok (.aload_n 0, 1) := by decide +kernel
theorem dL_law_525 : decode cL_law 525 = .ok (.iload_n 3, 1) := by decide +kernel
theorem dL_law_526 : decode cL_law 526 = .ok (.iconst 4, 1) := by decide +kernel
theorem dL_law_527 : decode cL_law 527 = .ok (.iadd, 1) := by decide +kernel
theorem dL_law_528 : decode cL_law 528 = .ok (.iaload, 1) := by decide +kernel
theorem dL_law_529 : decode cL_law 529 = .ok (.invokevirtual 56, 3) := by decide +kernel
theorem dL_law_532 : decode cL_law 532 = .ok (.if_icmp .eq 1272, 3) := by decide +kernel
theorem dL_law_535 : decode cL_law 535 = .ok (.iconst 0, 1) := by decide +kernel
theorem dL_law_536 : decode cL_law 536 = .ok (.ireturn, 1) := by decide +kernel
theorem dL_law_537 : decode cL_law 537 = .ok (.aload_n 1, 1) := by decide +kernel
theorem dL_law_538 : decode cL_law 538 = .ok (.aload_n 0, 1) := by decide +kernel
theorem dL_law_539 : decode cL_law 539 = .ok (.iload_n 3, 1) := by decide +kernel
theorem dL_law_540 : decode cL_law 540 = .ok (.iconst 1, 1) := by decide +kernel
theorem dL_law_541 : decode cL_law 541 = .ok (.iadd, 1) := by decide +kernel
theorem dL_law_542 : decode cL_law 542 = .ok (.iaload, 1) := by decide +kernel
theorem dL_law_543 : decode cL_law 543 = .ok (.aload_n 0, 1) := by decide +kernel
theorem dL_law_544 : decode cL_law 544 = .ok (.iload_n 3, 1) := by decide +kernel
theorem dL_law_545 : decode cL_law 545 = .ok (.iconst 2, 1) := by decide +kernel
theorem dL_law_546 : decode cL_law 546 = .ok (.iadd, 1) := by decide +kernel
theorem dL_law_547 : decode cL_law 547 = .ok (.iaload, 1) := by decide +kernel
theorem dL_law_548 : decode cL_law 548 = .ok (.aload_n 0, 1) := by decide +kernel
theorem dL_law_549 : decode cL_law 549 = .ok (.iload_n 3, 1) := by decide +kernel
theorem dL_law_550 : decode cL_law 550 = .ok (.iconst 3, 1) := by decide +kernel
theorem dL_law_551 : decode cL_law 551 = .ok (.iadd, 1) := by decide +kernel
theorem dL_law_552 : decode cL_law 552 = .ok (.iaload, 1) := by decide +kernel
theorem dL_law_553 : decode cL_law 553 = .ok (.aload_n 0, 1) := by decide +kernel
theorem dL_law_554 : decode cL_law 554 = .ok (.iload_n 3, 1) := by decide +kernel
theorem dL_law_555 : decode cL_law 555 = .ok (.iconst 4, 1) := by decide +kernel
theorem dL_law_556 : decode cL_law 556 = .ok (.iadd, 1) := by decide +kernel
theorem dL_law_557 : decode cL_law 557 = .ok (.iaload, 1) := by decide +kernel
theorem dL_law_558 : decode cL_law 558 = .ok (.invokevirtual 57, 3) := by decide +kernel
theorem dL_law_561 : decode cL_law 561 = .ok (.aload_n 2, 1) := by decide +kernel
theorem dL_law_562 : decode cL_law 562 = .ok (.aload_n 0, 1) := by decide +kernel
theorem dL_law_563 : decode cL_law 563 = .ok (.iload_n 3, 1) := by decide +kernel
theorem dL_law_564 : decode cL_law 564 = .ok (.iconst 1, 1) := by decide +kernel
theorem dL_law_565 : decode cL_law 565 = .ok (.iadd, 1) := by decide +kernel
theorem dL_law_566 : decode cL_law 566 = .ok (.iaload, 1) := by decide +kernel
theorem dL_law_567 : decode cL_law 567 = .ok (.aload_n 0, 1) := by decide +kernel
theorem dL_law_568 : decode cL_law 568 = .ok (.iload_n 3, 1) := by decide +kernel
theorem dL_law_569 : decode cL_law 569 = .ok (.iconst 2, 1) := by decide +kernel
theorem dL_law_570 : decode cL_law 570 = .ok (.iadd, 1) := by decide +kernel
theorem dL_law_571 : decode cL_law 571 = .ok (.iaload, 1) := by decide +kernel
theorem dL_law_572 : decode cL_law 572 = .ok (.aload_n 0, 1) := by decide +kernel
theorem dL_law_573 : decode cL_law 573 = .ok (.iload_n 3, 1) := by decide +kernel
theorem dL_law_574 : decode cL_law 574 = .ok (.iconst 3, 1) := by decide +kernel
theorem dL_law_575 : decode cL_law 575 = .ok (.iadd, 1) := by decide +kernel
theorem dL_law_576 : decode cL_law 576 = .ok (.iaload, 1) := by decide +kernel
theorem dL_law_577 : decode cL_law 577 = .ok (.aload_n 0, 1) := by decide +kernel
theorem dL_law_578 : decode cL_law 578 = .ok (.iload_n 3, 1) := by decide +kernel
theorem dL_law_579 : decode cL_law 579 = .ok (.iconst 4, 1) := by decide +kernel
theorem dL_law_580 : decode cL_law 580 = .ok (.iadd, 1) := by decide +kernel
theorem dL_law_581 : decode cL_law 581 = .ok (.iaload, 1) := by decide +kernel
theorem dL_law_582 : decode cL_law 582 = .ok (.invokevirtual 60, 3) := by decide +kernel
theorem dL_law_585 : decode cL_law 585 = .ok (.if_icmp .eq 1219, 3) := by decide +kernel
theorem dL_law_588 : decode cL_law 588 = .ok (.iconst 0, 1) := by decide +kernel
theorem dL_law_589 : decode cL_law 589 = .ok (.ireturn, 1) := by decide +kernel
theorem dL_law_590 : decode cL_law 590 = .ok (.aload_n 1, 1) := by decide +kernel
theorem dL_law_591 : decode cL_law 591 = .ok (.aload_n 0, 1) := by decide +kernel
theorem dL_law_592 : decode cL_law 592 = .ok (.iload_n 3, 1) := by decide +kernel
theorem dL_law_593 : decode cL_law 593 = .ok (.iconst 1, 1) := by decide +kernel
theorem dL_law_594 : decode cL_law 594 = .ok (.iadd, 1) := by decide +kernel
theorem dL_law_595 : decode cL_law 595 = .ok (.iaload, 1) := by decide +kernel
theorem dL_law_596 : decode cL_law 596 = .ok (.aload_n 0, 1) := by decide +kernel
theorem dL_law_597 : decode cL_law 597 = .ok (.iload_n 3, 1) := by decide +kernel
theorem dL_law_598 : decode cL_law 598 = .ok (.iconst 2, 1) := by decide +kernel
theorem dL_law_599 : decode cL_law 599 = .ok (.iadd, 1) := by decide +kernel
theorem dL_law_600 : decode cL_law 600 = .ok (.iaload, 1) := by decide +kernel
theorem dL_law_601 : decode cL_law 601 = .ok (.aload_n 0, 1) := by decide +kernel
theorem dL_law_602 : decode cL_law 602 = .ok (.iload_n 3, 1) := by decide +kernel
theorem dL_law_603 : decode cL_law 603 = .ok (.iconst 3, 1) := by decide +kernel
theorem dL_law_604 : decode cL_law 604 = .ok (.iadd, 1) := by decide +kernel
theorem dL_law_605 : decode cL_law 605 = .ok (.iaload, 1) := by decide +kernel
theorem dL_law_606 : decode cL_law 606 = .ok (.aload_n 0, 1) := by decide +kernel
theorem dL_law_607 : decode cL_law 607 = .ok (.iload_n 3, 1) := by decide +kernel
theorem dL_law_608 : decode cL_law 608 = .ok (.iconst 4, 1) := by decide +kernel
theorem dL_law_609 : decode cL_law 609 = .ok (.iadd, 1) := by decide +kernel
theorem dL_law_610 : decode cL_law 610 = .ok (.iaload, 1) := by decide +kernel
theorem dL_law_611 : decode cL_law 611 = .ok (.aload_n 0, 1) := by decide +kernel
theorem dL_law_612 : decode cL_law 612 = .ok (.iload_n 3, 1) := by decide +kernel
theorem dL_law_613 : decode cL_law 613 = .ok (.iconst 5, 1) := by decide +kernel
theorem dL_law_614 : decode cL_law 614 = .ok (.iadd, 1) := by decide +kernel
theorem dL_law_615 : decode cL_law 615 = .ok (.iaload, 1) := by decide +kernel
theorem dL_law_616 : decode cL_law 616 = .ok (.invokevirtual 61, 3) := by decide +kernel
theorem dL_law_619 : decode cL_law 619 = .ok (.aload_n 2, 1) := by decide +kernel
theorem dL_law_620 : decode cL_law 620 = .ok (.aload_n 0, 1) := by decide +kernel
theorem dL_law_621 : decode cL_law 621 = .ok (.iload_n 3, 1) := by decide +kernel
theorem dL_law_622 : decode cL_law 622 = .ok (.iconst 1, 1) := by decide +kernel
theorem dL_law_623 : decode cL_law 623 = .ok (.iadd, 1) := by decide +kernel
theorem dL_law_624 : decode cL_law 624 = .ok (.iaload, 1) := by decide +kernel
theorem dL_law_625 : decode cL_law 625 = .ok (.aload_n 0, 1) := by decide +kernel
theorem dL_law_626 : decode cL_law 626 = .ok (.iload_n 3, 1) := by decide +kernel
theorem dL_law_627 : decode cL_law 627 = .ok (.iconst 2, 1) := by decide +kernel
theorem dL_law_628 : decode cL_law 628 = .ok (.iadd, 1) := by decide +kernel
theorem dL_law_629 : decode cL_law 629 = .ok (.iaload, 1) := by decide +kernel
theorem dL_law_630 : decode cL_law 630 = .ok (.aload_n 0, 1) := by decide +kernel
theorem dL_law_631 : decode cL_law 631 = .ok (.iload_n 3, 1) := by decide +kernel
theorem dL_law_632 : decode cL_law 632 = .ok (.iconst 3, 1) := by decide +kernel
theorem dL_law_633 : decode cL_law 633 = .ok (.iadd, 1) := by decide +kernel
theorem dL_law_634 : decode cL_law 634 = .ok (.iaload, 1) := by decide +kernel
theorem dL_law_635 : decode cL_law 635 = .ok (.aload_n 0, 1) := by decide +kernel
theorem dL_law_636 : decode cL_law 636 = .ok (.iload_n 3, 1) := by decide +kernel
theorem dL_law_637 : decode cL_law 637 = .ok (.iconst 4, 1) := by decide +kernel
theorem dL_law_638 : decode cL_law 638 = .ok (.iadd, 1) := by decide +kernel
theorem dL_law_639 : decode cL_law 639 = .ok (.iaload, 1) := by decide +kernel
theorem dL_law_640 : decode cL_law 640 = .ok (.aload_n 0, 1) := by decide +kernel
theorem dL_law_641 : decode cL_law 641 = .ok (.iload_n 3, 1) := by decide +kernel
theorem dL_law_642 : decode cL_law 642 = .ok (.iconst 5, 1) := by decide +kernel
theorem dL_law_643 : decode cL_law 643 = .ok (.iadd, 1) := by decide +kernel
theorem dL_law_644 : decode cL_law 644 = .ok (.iaload, 1) := by decide +kernel
theorem dL_law_645 : decode cL_law 645 = .ok (.invokevirtual 64, 3) := by decide +kernel
theorem dL_law_648 : decode cL_law 648 = .ok (.if_icmp .eq 1156, 3) := by decide +kernel
theorem dL_law_651 : decode cL_law 651 = .ok (.iconst 0, 1) := by decide +kernel
theorem dL_law_652 : decode cL_law 652 = .ok (.ireturn, 1) := by decide +kernel
theorem dL_law_653 : decode cL_law 653 = .ok (.aload_n 1, 1) := by decide +kernel
theorem dL_law_654 : decode cL_law 654 = .ok (.aload_n 0, 1) := by decide +kernel
theorem dL_law_655 : decode cL_law 655 = .ok (.iload_n 3, 1) := by decide +kernel
theorem dL_law_656 : decode cL_law 656 = .ok (.iconst 1, 1) := by decide +kernel
theorem dL_law_657 : decode cL_law 657 = .ok (.iadd, 1) := by decide +kernel
theorem dL_law_658 : decode cL_law 658 = .ok (.iaload, 1) := by decide +kernel
theorem dL_law_659 : decode cL_law 659 = .ok (.aload_n 0, 1) := by decide +kernel
theorem dL_law_660 : decode cL_law 660 = .ok (.iload_n 3, 1) := by decide +kernel
theorem dL_law_661 : decode cL_law 661 = .ok (.iconst 2, 1) := by decide +kernel
theorem dL_law_662 : decode cL_law 662 = .ok (.iadd, 1) := by decide +kernel
theorem dL_law_663 : decode cL_law 663 = .ok (.iaload, 1) := by decide +kernel
theorem dL_law_664 : decode cL_law 664 = .ok (.invokevirtual 65, 3) := by decide +kernel
theorem dL_law_667 : decode cL_law 667 = .ok (.aload_n 2, 1) := by decide +kernel
theorem dL_law_668 : decode cL_law 668 = .ok (.aload_n 0, 1) := by decide +kernel
theorem dL_law_669 : decode cL_law 669 = .ok (.iload_n 3, 1) := by decide +kernel
theorem dL_law_670 : decode cL_law 670 = .ok (.iconst 1, 1) := by decide +kernel
theorem dL_law_671 : decode cL_law 671 = .ok (.iadd, 1) := by decide +kernel
theorem dL_law_672 : decode cL_law 672 = .ok (.iaload, 1) := by decide +kernel
theorem dL_law_673 : decode cL_law 673 = .ok (.aload_n 0, 1) := by decide +kernel
theorem dL_law_674 : decode cL_law 674 = .ok (.iload_n 3, 1) := by decide +kernel
theorem dL_law_675 : decode cL_law 675 = .ok (.iconst 2, 1) := by decide +kernel
theorem dL_law_676 : decode cL_law 676 = .ok (.iadd, 1) := by decide +kernel
theorem dL_law_677 : decode cL_law 677 = .ok (.iaload, 1) := by decide +kernel
theorem dL_law_678 : decode cL_law 678 = .ok (.invokevirtual 68, 3) := by decide +kernel
theorem dL_law_681 : decode cL_law 681 = .ok (.if_icmp .eq 1123, 3) := by decide +kernel
theorem dL_law_684 : decode cL_law 684 = .ok (.iconst 0, 1) := by decide +kernel
theorem dL_law_685 : decode cL_law 685 = .ok (.ireturn, 1) := by decide +kernel
theorem dL_law_686 : decode cL_law 686 = .ok (.aload_n 1, 1) := by decide +kernel
theorem dL_law_687 : decode cL_law 687 = .ok (.aload_n 0, 1) := by decide +kernel
theorem dL_law_688 : decode cL_law 688 = .ok (.iload_n 3, 1) := by decide +kernel
theorem dL_law_689 : decode cL_law 689 = .ok (.iconst 1, 1) := by decide +kernel
theorem dL_law_690 : decode cL_law 690 = .ok (.iadd, 1) := by decide +kernel
theorem dL_law_691 : decode cL_law 691 = .ok (.iaload, 1) := by decide +kernel
theorem dL_law_692 : decode cL_law 692 = .ok (.invokevirtual 69, 3) := by decide +kernel
theorem dL_law_695 : decode cL_law 695 = .ok (.aload_n 2, 1) := by decide +kernel
theorem dL_law_696 : decode cL_law 696 = .ok (.aload_n 0, 1) := by decide +kernel
theorem dL_law_697 : decode cL_law 697 = .ok (.iload_n 3, 1) := by decide +kernel
theorem dL_law_698 : decode cL_law 698 = .ok (.iconst 1, 1) := by decide +kernel
theorem dL_law_699 : decode cL_law 699 = .ok (.iadd, 1) := by decide +kernel
theorem dL_law_700 : decode cL_law 700 = .ok (.iaload, 1) := by decide +kernel
theorem dL_law_701 : decode cL_law 701 = .ok (.invokevirtual 72, 3) := by decide +kernel
theorem dL_law_704 : decode cL_law 704 = .ok (.if_icmp .eq 1100, 3) := by decide +kernel
theorem dL_law_707 : decode cL_law 707 = .ok (.iconst 0, 1) := by decide +kernel
theorem dL_law_708 : decode cL_law 708 = .ok (.ireturn, 1) := by decide +kernel
theorem dL_law_709 : decode cL_law 709 = .ok (.aload_n 1, 1) := by decide +kernel
theorem dL_law_710 : decode cL_law 710 = .ok (.aload_n 0, 1) := by decide +kernel
theorem dL_law_711 : decode cL_law 711 = .ok (.iload_n 3, 1) := by decide +kernel
theorem dL_law_712 : decode cL_law 712 = .ok (.iconst 1, 1) := by decide +kernel
theorem dL_law_713 : decode cL_law 713 = .ok (.iadd, 1) := by decide +kernel
theorem dL_law_714 : decode cL_law 714 = .ok (.iaload, 1) := by decide +kernel
theorem dL_law_715 : decode cL_law 715 = .ok (.invokevirtual 73, 3) := by decide +kernel
theorem dL_law_718 : decode cL_law 718 = .ok (.aload_n 2, 1) := by decide +kernel
theorem dL_law_719 : decode cL_law 719 = .ok (.aload_n 0, 1) := by decide +kernel
theorem dL_law_720 : decode cL_law 720 = .ok (.iload_n 3, 1) := by decide +kernel
theorem dL_law_721 : decode cL_law 721 = .ok (.iconst 1, 1) := by decide +kernel
theorem dL_law_722 : decode cL_law 722 = .ok (.iadd, 1) := by decide +kernel
theorem dL_law_723 : decode cL_law 723 = .ok (.iaload, 1) := by decide +kernel
theorem dL_law_724 : decode cL_law 724 = .ok (.invokevirtual 76, 3) := by decide +kernel
theorem dL_law_727 : decode cL_law 727 = .ok (.if_icmp .eq 1077, 3) := by decide +kernel
theorem dL_law_730 : decode cL_law 730 = .ok (.iconst 0, 1) := by decide +kernel
theorem dL_law_731 : decode cL_law 731 = .ok (.ireturn, 1) := by decide +kernel
theorem dL_law_732 : decode cL_law 732 = .ok (.aload_n 1, 1) := by decide +kernel
theorem dL_law_733 : decode cL_law 733 = .ok (.aload_n 0, 1) := by decide +kernel
theorem dL_law_734 : decode cL_law 734 = .ok (.iload_n 3, 1) := by decide +kernel
theorem dL_law_735 : decode cL_law 735 = .ok (.iconst 1, 1) := by decide +kernel
theorem dL_law_736 : decode cL_law 736 = .ok (.iadd, 1) := by decide +kernel
theorem dL_law_737 : decode cL_law 737 = .ok (.iaload, 1) := by decide +kernel
theorem dL_law_738 : decode cL_law 738 = .ok (.invokevirtual 77, 3) := by decide +kernel
theorem dL_law_741 : decode cL_law 741 = .ok (.aload_n 2, 1) := by decide +kernel
theorem dL_law_742 : decode cL_law 742 = .ok (.aload_n 0, 1) := by decide +kernel
theorem dL_law_743 : decode cL_law 743 = .ok (.iload_n 3, 1) := by decide +kernel
theorem dL_law_744 : decode cL_law 744 = .ok (.iconst 1, 1) := by decide +kernel
theorem dL_law_745 : decode cL_law 745 = .ok (.iadd, 1) := by decide +kernel
theorem dL_law_746 : decode cL_law 746 = .ok (.iaload, 1) := by decide +kernel
theorem dL_law_747 : decode cL_law 747 = .ok (.invokevirtual 80, 3) := by decide +kernel
theorem dL_law_750 : decode cL_law 750 = .ok (.if_icmp .eq 1054, 3) := by decide +kernel
theorem dL_law_753 : decode cL_law 753 = .ok (.iconst 0, 1) := by decide +kernel
theorem dL_law_754 : decode cL_law 754 = .ok (.ireturn, 1) := by decide +kernel
theorem dL_law_755 : decode cL_law 755 = .ok (.aload_n 1, 1) := by decide +kernel
theorem dL_law_756 : decode cL_law 756 = .ok (.aload_n 0, 1) := by decide +kernel
theorem dL_law_757 : decode cL_law 757 = .ok (.iload_n 3, 1) := by decide +kernel
theorem dL_law_758 : decode cL_law 758 = .ok (.iconst 1, 1) := by decide +kernel
theorem dL_law_759 : decode cL_law 759 = .ok (.iadd, 1) := by decide +kernel
theorem dL_law_760 : decode cL_law 760 = .ok (.iaload, 1) := by decide +kernel
theorem dL_law_761 : decode cL_law 761 = .ok (.aload_n 0, 1) := by decide +kernel
theorem dL_law_762 : decode cL_law 762 = .ok (.iload_n 3, 1) := by decide +kernel
theorem dL_law_763 : decode cL_law 763 = .ok (.iconst 2, 1) := by decide +kernel
theorem dL_law_764 : decode cL_law 764 = .ok (.iadd, 1) := by decide +kernel
theorem dL_law_765 : decode cL_law 765 = .ok (.iaload, 1) := by decide +kernel
theorem dL_law_766 : decode cL_law 766 = .ok (.invokevirtual 81, 3) := by decide +kernel
theorem dL_law_769 : decode cL_law 769 = .ok (.aload_n 2, 1) := by decide +kernel
theorem dL_law_770 : decode cL_law 770 = .ok (.aload_n 0, 1) := by decide +kernel
theorem dL_law_771 : decode cL_law 771 = .ok (.iload_n 3, 1) := by decide +kernel
theorem dL_law_772 : decode cL_law 772 = .ok (.iconst 1, 1) := by decide +kernel
theorem dL_law_773 : decode cL_law 773 = .ok (.iadd, 1) := by decide +kernel
theorem dL_law_774 : decode cL_law 774 = .ok (.iaload, 1) := by decide +kernel
theorem dL_law_775 : decode cL_law 775 = .ok (.aload_n 0, 1) := by decide +kernel
theorem dL_law_776 : decode cL_law 776 = .ok (.iload_n 3, 1) := by decide +kernel
theorem dL_law_777 : decode cL_law 777 = .ok (.iconst 2, 1) := by decide +kernel
theorem dL_law_778 : decode cL_law 778 = .ok (.iadd, 1) := by decide +kernel
theorem dL_law_779 : decode cL_law 779 = .ok (.iaload, 1) := by decide +kernel
theorem dL_law_780 : decode cL_law 780 = .ok (.invokevirtual 84, 3) := by decide +kernel
theorem dL_law_783 : decode cL_law 783 = .ok (.if_icmp .eq 1021, 3) := by decide +kernel
theorem dL_law_786 : decode cL_law 786 = .ok (.iconst 0, 1) := by decide +kernel
theorem dL_law_787 : decode cL_law 787 = .ok (.ireturn, 1) := by decide +kernel
theorem dL_law_788 : decode cL_law 788 = .ok (.aload_n 1, 1) := by decide +kernel
theorem dL_law_789 : decode cL_law 789 = .ok (.aload_n 0, 1) := by decide +kernel
theorem dL_law_790 : decode cL_law 790 = .ok (.iload_n 3, 1) := by decide +kernel
theorem dL_law_791 : decode cL_law 791 = .ok (.iconst 1, 1) := by decide +kernel
theorem dL_law_792 : decode cL_law 792 = .ok (.iadd, 1) := by decide +kernel
theorem dL_law_793 : decode cL_law 793 = .ok (.iaload, 1) := by decide +kernel
theorem dL_law_794 : decode cL_law 794 = .ok (.aload_n 0, 1) := by decide +kernel
theorem dL_law_795 : decode cL_law 795 = .ok (.iload_n 3, 1) := by decide +kernel
theorem dL_law_796 : decode cL_law 796 = .ok (.iconst 2, 1) := by decide +kernel
theorem dL_law_797 : decode cL_law 797 = .ok (.iadd, 1) := by decide +kernel
theorem dL_law_798 : decode cL_law 798 = .ok (.iaload, 1) := by decide +kernel
theorem dL_law_799 : decode cL_law 799 = .ok (.invokevirtual 85, 3) := by decide +kernel
theorem dL_law_802 : decode cL_law 802 = .ok (.aload_n 2, 1) := by decide +kernel
theorem dL_law_803 : decode cL_law 803 = .ok (.aload_n 0, 1) := by decide +kernel
theorem dL_law_804 : decode cL_law 804 = .ok (.iload_n 3, 1) := by decide +kernel
theorem dL_law_805 : decode cL_law 805 = .ok (.iconst 1, 1) := by decide +kernel
theorem dL_law_806 : decode cL_law 806 = .ok (.iadd, 1) := by decide +kernel
theorem dL_law_807 : decode cL_law 807 = .ok (.iaload, 1) := by decide +kernel
theorem dL_law_808 : decode cL_law 808 = .ok (.aload_n 0, 1) := by decide +kernel
theorem dL_law_809 : decode cL_law 809 = .ok (.iload_n 3, 1) := by decide +kernel
theorem dL_law_810 : decode cL_law 810 = .ok (.iconst 2, 1) := by decide +kernel
theorem dL_law_811 : decode cL_law 811 = .ok (.iadd, 1) := by decide +kernel
theorem dL_law_812 : decode cL_law 812 = .ok (.iaload, 1) := by decide +kernel
theorem dL_law_813 : decode cL_law 813 = .ok (.invokevirtual 88, 3) := by decide +kernel
theorem dL_law_816 : decode cL_law 816 = .ok (.if_icmp .eq 988, 3) := by decide +kernel
theorem dL_law_819 : decode cL_law 819 = .ok (.iconst 0, 1) := by decide +kernel
theorem dL_law_820 : decode cL_law 820 = .ok (.ireturn, 1) := by decide +kernel
theorem dL_law_821 : decode cL_law 821 = .ok (.aload_n 1, 1) := by decide +kernel
theorem dL_law_822 : decode cL_law 822 = .ok (.aload_n 0, 1) := by decide +kernel
theorem dL_law_823 : decode cL_law 823 = .ok (.iload_n 3, 1) := by decide +kernel
theorem dL_law_824 : decode cL_law 824 = .ok (.iconst 1, 1) := by decide +kernel
theorem dL_law_825 : decode cL_law 825 = .ok (.iadd, 1) := by decide +kernel
theorem dL_law_826 : decode cL_law 826 = .ok (.iaload, 1) := by decide +kernel
theorem dL_law_827 : decode cL_law 827 = .ok (.aload_n 0, 1) := by decide +kernel
theorem dL_law_828 : decode cL_law 828 = .ok (.iload_n 3, 1) := by decide +kernel
theorem dL_law_829 : decode cL_law 829 = .ok (.iconst 2, 1) := by decide +kernel
theorem dL_law_830 : decode cL_law 830 = .ok (.iadd, 1) := by decide +kernel
theorem dL_law_831 : decode cL_law 831 = .ok (.iaload, 1) := by decide +kernel
theorem dL_law_832 : decode cL_law 832 = .ok (.aload_n 0, 1) := by decide +kernel
theorem dL_law_833 : decode cL_law 833 = .ok (.iload_n 3, 1) := by decide +kernel
theorem dL_law_834 : decode cL_law 834 = .ok (.iconst 3, 1) := by decide +kernel
theorem dL_law_835 : decode cL_law 835 = .ok (.iadd, 1) := by decide +kernel
theorem dL_law_836 : decode cL_law 836 = .ok (.iaload, 1) := by decide +kernel
theorem dL_law_837 : decode cL_law 837 = .ok (.invokevirtual 89, 3) := by decide +kernel
theorem dL_law_840 : decode cL_law 840 = .ok (.aload_n 2, 1) := by decide +kernel
theorem dL_law_841 : decode cL_law 841 = .ok (.aload_n 0, 1) := by decide +kernel
theorem dL_law_842 : decode cL_law 842 = .ok (.iload_n 3, 1) := by decide +kernel
theorem dL_law_843 : decode cL_law 843 = .ok (.iconst 1, 1) := by decide +kernel
theorem dL_law_844 : decode cL_law 844 = .ok (.iadd, 1) := by decide +kernel
theorem dL_law_845 : decode cL_law 845 = .ok (.iaload, 1) := by decide +kernel
theorem dL_law_846 : decode cL_law 846 = .ok (.aload_n 0, 1) := by decide +kernel
theorem dL_law_847 : decode cL_law 847 = .ok (.iload_n 3, 1) := by decide +kernel
theorem dL_law_848 : decode cL_law 848 = .ok (.iconst 2, 1) := by decide +kernel
theorem dL_law_849 : decode cL_law 849 = .ok (.iadd, 1) := by decide +kernel
theorem dL_law_850 : decode cL_law 850 = .ok (.iaload, 1) := by decide +kernel
theorem dL_law_851 : decode cL_law 851 = .ok (.aload_n 0, 1) := by decide +kernel
theorem dL_law_852 : decode cL_law 852 = .ok (.iload_n 3, 1) := by decide +kernel
theorem dL_law_853 : decode cL_law 853 = .ok (.iconst 3, 1) := by decide +kernel
theorem dL_law_854 : decode cL_law 854 = .ok (.iadd, 1) := by decide +kernel
theorem dL_law_855 : decode cL_law 855 = .ok (.iaload, 1) := by decide +kernel
theorem dL_law_856 : decode cL_law 856 = .ok (.invokevirtual 92, 3) := by decide +kernel
theorem dL_law_859 : decode cL_law 859 = .ok (.if_icmp .eq 945, 3) := by decide +kernel
theorem dL_law_862 : decode cL_law 862 = .ok (.iconst 0, 1) := by decide +kernel
theorem dL_law_863 : decode cL_law 863 = .ok (.ireturn, 1) := by decide +kernel
theorem dL_law_864 : decode cL_law 864 = .ok (.aload_n 1, 1) := by decide +kernel
theorem dL_law_865 : decode cL_law 865 = .ok (.aload_n 0, 1) := by decide +kernel
theorem dL_law_866 : decode cL_law 866 = .ok (.iload_n 3, 1) := by decide +kernel
theorem dL_law_867 : decode cL_law 867 = .ok (.iconst 1, 1) := by decide +kernel
theorem dL_law_868 : decode cL_law 868 = .ok (.iadd, 1) := by decide +kernel
theorem dL_law_869 : decode cL_law 869 = .ok (.iaload, 1) := by decide +kernel
theorem dL_law_870 : decode cL_law 870 = .ok (.aload_n 0, 1) := by decide +kernel
theorem dL_law_871 : decode cL_law 871 = .ok (.iload_n 3, 1) := by decide +kernel
theorem dL_law_872 : decode cL_law 872 = .ok (.iconst 2, 1) := by decide +kernel
theorem dL_law_873 : decode cL_law 873 = .ok (.iadd, 1) := by decide +kernel
theorem dL_law_874 : decode cL_law 874 = .ok (.iaload, 1) := by decide +kernel
theorem dL_law_875 : decode cL_law 875 = .ok (.invokevirtual 93, 3) := by decide +kernel
theorem dL_law_878 : decode cL_law 878 = .ok (.aload_n 2, 1) := by decide +kernel
theorem dL_law_879 : decode cL_law 879 = .ok (.aload_n 0, 1) := by decide +kernel
theorem dL_law_880 : decode cL_law 880 = .ok (.iload_n 3, 1) := by decide +kernel
theorem dL_law_881 : decode cL_law 881 = .ok (.iconst 1, 1) := by decide +kernel
theorem dL_law_882 : decode cL_law 882 = .ok (.iadd, 1) := by decide +kernel
theorem dL_law_883 : decode cL_law 883 = .ok (.iaload, 1) := by decide +kernel
theorem dL_law_884 : decode cL_law 884 = .ok (.aload_n 0, 1) := by decide +kernel
theorem dL_law_885 : decode cL_law 885 = .ok (.iload_n 3, 1) := by decide +kernel
theorem dL_law_886 : decode cL_law 886 = .ok (.iconst 2, 1) := by decide +kernel
theorem dL_law_887 : decode cL_law 887 = .ok (.iadd, 1) := by decide +kernel
theorem dL_law_888 : decode cL_law 888 = .ok (.iaload, 1) := by decide +kernel
theorem dL_law_889 : decode cL_law 889 = .ok (.invokevirtual 96, 3) := by decide +kernel
theorem dL_law_892 : decode cL_law 892 = .ok (.if_icmp .eq 912, 3) := by decide +kernel
theorem dL_law_895 : decode cL_law 895 = .ok (.iconst 0, 1) := by decide +kernel
theorem dL_law_896 : decode cL_law 896 = .ok (.ireturn, 1) := by decide +kernel
theorem dL_law_897 : decode cL_law 897 = .ok (.aload_n 1, 1) := by decide +kernel
theorem dL_law_898 : decode cL_law 898 = .ok (.aload_n 0, 1) := by decide +kernel
theorem dL_law_899 : decode cL_law 899 = .ok (.iload_n 3, 1) := by decide +kernel
theorem dL_law_900 : decode cL_law 900 = .ok (.iconst 1, 1) := by decide +kernel
theorem dL_law_901 : decode cL_law 901 = .ok (.iadd, 1) := by decide +kernel
theorem dL_law_902 : decode cL_law 902 = .ok (.iaload, 1) := by decide +kernel
theorem dL_law_903 : decode cL_law 903 = .ok (.aload_n 0, 1) := by decide +kernel
theorem dL_law_904 : decode cL_law 904 = .ok (.iload_n 3, 1) := by decide +kernel
theorem dL_law_905 : decode cL_law 905 = .ok (.iconst 2, 1) := by decide +kernel
theorem dL_law_906 : decode cL_law 906 = .ok (.iadd, 1) := by decide +kernel
theorem dL_law_907 : decode cL_law 907 = .ok (.iaload, 1) := by decide +kernel
theorem dL_law_908 : decode cL_law 908 = .ok (.invokevirtual 97, 3) := by decide +kernel
theorem dL_law_911 : decode cL_law 911 = .ok (.aload_n 2, 1) := by decide +kernel
theorem dL_law_912 : decode cL_law 912 = .ok (.aload_n 0, 1) := by decide +kernel
theorem dL_law_913 : decode cL_law 913 = .ok (.iload_n 3, 1) := by decide +kernel
theorem dL_law_914 : decode cL_law 914 = .ok (.iconst 1, 1) := by decide +kernel
theorem dL_law_915 : decode cL_law 915 = .ok (.iadd, 1) := by decide +kernel
theorem dL_law_916 : decode cL_law 916 = .ok (.iaload, 1) := by decide +kernel
theorem dL_law_917 : decode cL_law 917 = .ok (.aload_n 0, 1) := by decide +kernel
theorem dL_law_918 : decode cL_law 918 = .ok (.iload_n 3, 1) := by decide +kernel
theorem dL_law_919 : decode cL_law 919 = .ok (.iconst 2, 1) := by decide +kernel
theorem dL_law_920 : decode cL_law 920 = .ok (.iadd, 1) := by decide +kernel
theorem dL_law_921 : decode cL_law 921 = .ok (.iaload, 1) := by decide +kernel
theorem dL_law_922 : decode cL_law 922 = .ok (.invokevirtual 100, 3) := by decide +kernel
theorem dL_law_925 : decode cL_law 925 = .ok (.if_icmp .eq 879, 3) := by decide +kernel
theorem dL_law_928 : decode cL_law 928 = .ok (.iconst 0, 1) := by decide +kernel
theorem dL_law_929 : decode cL_law 929 = .ok (.ireturn, 1) := by decide +kernel
theorem dL_law_930 : decode cL_law 930 = .ok (.aload_n 1, 1) := by decide +kernel
theorem dL_law_931 : decode cL_law 931 = .ok (.aload_n 0, 1) := by decide +kernel
theorem dL_law_932 : decode cL_law 932 = .ok (.iload_n 3, 1) := by decide +kernel
theorem dL_law_933 : decode cL_law 933 = .ok (.iconst 1, 1) := by decide +kernel
theorem dL_law_934 : decode cL_law 934 = .ok (.iadd, 1) := by decide +kernel
theorem dL_law_935 : decode cL_law 935 = .ok (.iaload, 1) := by decide +kernel
theorem dL_law_936 : decode cL_law 936 = .ok (.aload_n 0, 1) := by decide +kernel
theorem dL_law_937 : decode cL_law 937 = .ok (.iload_n 3, 1) := by decide +kernel
theorem dL_law_938 : decode cL_law 938 = .ok (.iconst 2, 1) := by decide +kernel
theorem dL_law_939 : decode cL_law 939 = .ok (.iadd, 1) := by decide +kernel
theorem dL_law_940 : decode cL_law 940 = .ok (.iaload, 1) := by decide +kernel
theorem dL_law_941 : decode cL_law 941 = .ok (.aload_n 0, 1) := by decide +kernel
theorem dL_law_942 : decode cL_law 942 = .ok (.iload_n 3, 1) := by decide +kernel
theorem dL_law_943 : decode cL_law 943 = .ok (.iconst 3, 1) := by decide +kernel
theorem dL_law_944 : decode cL_law 944 = .ok (.iadd, 1) := by decide +kernel
theorem dL_law_945 : decode cL_law 945 = .ok (.iaload, 1) := by decide +kernel
theorem dL_law_946 : decode cL_law 946 = .ok (.invokevirtual 101, 3) := by decide +kernel
theorem dL_law_949 : decode cL_law 949 = .ok (.aload_n 2, 1) := by decide +kernel
theorem dL_law_950 : decode cL_law 950 = .ok (.aload_n 0, 1) := by decide +kernel
theorem dL_law_951 : decode cL_law 951 = .ok (.iload_n 3, 1) := by decide +kernel
theorem dL_law_952 : decode cL_law 952 = .ok (.iconst 1, 1) := by decide +kernel
theorem dL_law_953 : decode cL_law 953 = .ok (.iadd, 1) := by decide +kernel
theorem dL_law_954 : decode cL_law 954 = .ok (.iaload, 1) := by decide +kernel
theorem dL_law_955 : decode cL_law 955 = .ok (.aload_n 0, 1) := by decide +kernel
theorem dL_law_956 : decode cL_law 956 = .ok (.iload_n 3, 1) := by decide +kernel
theorem dL_law_957 : decode cL_law 957 = .ok (.iconst 2, 1) := by decide +kernel
theorem dL_law_958 : decode cL_law 958 = .ok (.iadd, 1) := by decide +kernel
theorem dL_law_959 : decode cL_law 959 = .ok (.iaload, 1) := by decide +kernel
theorem dL_law_960 : decode cL_law 960 = .ok (.aload_n 0, 1) := by decide +kernel
theorem dL_law_961 : decode cL_law 961 = .ok (.iload_n 3, 1) := by decide +kernel
theorem dL_law_962 : decode cL_law 962 = .ok (.iconst 3, 1) := by decide +kernel
theorem dL_law_963 : decode cL_law 963 = .ok (.iadd, 1) := by decide +kernel
theorem dL_law_964 : decode cL_law 964 = .ok (.iaload, 1) := by decide +kernel
theorem dL_law_965 : decode cL_law 965 = .ok (.invokevirtual 104, 3) := by decide +kernel
theorem dL_law_968 : decode cL_law 968 = .ok (.if_icmp .eq 836, 3) := by decide +kernel
theorem dL_law_971 : decode cL_law 971 = .ok (.iconst 0, 1) := by decide +kernel
theorem dL_law_972 : decode cL_law 972 = .ok (.ireturn, 1) := by decide +kernel
theorem dL_law_973 : decode cL_law 973 = .ok (.aload_n 1, 1) := by decide +kernel
theorem dL_law_974 : decode cL_law 974 = .ok (.aload_n 0, 1) := by decide +kernel
theorem dL_law_975 : decode cL_law 975 = .ok (.iload_n 3, 1) := by decide +kernel
theorem dL_law_976 : decode cL_law 976 = .ok (.iconst 1, 1) := by decide +kernel
theorem dL_law_977 : decode cL_law 977 = .ok (.iadd, 1) := by decide +kernel
theorem dL_law_978 : decode cL_law 978 = .ok (.iaload, 1) := by decide +kernel
theorem dL_law_979 : decode cL_law 979 = .ok (.invokevirtual 105, 3) := by decide +kernel
theorem dL_law_982 : decode cL_law 982 = .ok (.aload_n 2, 1) := by decide +kernel
theorem dL_law_983 : decode cL_law 983 = .ok (.aload_n 0, 1) := by decide +kernel
theorem dL_law_984 : decode cL_law 984 = .ok (.iload_n 3, 1) := by decide +kernel
theorem dL_law_985 : decode cL_law 985 = .ok (.iconst 1, 1) := by decide +kernel
theorem dL_law_986 : decode cL_law 986 = .ok (.iadd, 1) := by decide +kernel
theorem dL_law_987 : decode cL_law 987 = .ok (.iaload, 1) := by decide +kernel
theorem dL_law_988 : decode cL_law 988 = .ok (.invokevirtual 108, 3) := by decide +kernel
theorem dL_law_991 : decode cL_law 991 = .ok (.if_icmp .eq 813, 3) := by decide +kernel
theorem dL_law_994 : decode cL_law 994 = .ok (.iconst 0, 1) := by decide +kernel
theorem dL_law_995 : decode cL_law 995 = .ok (.ireturn, 1) := by decide +kernel
theorem dL_law_996 : decode cL_law 996 = .ok (.aload_n 1, 1) := by decide +kernel
theorem dL_law_997 : decode cL_law 997 = .ok (.aload_n 0, 1) := by decide +kernel
theorem dL_law_998 : decode cL_law 998 = .ok (.iload_n 3, 1) := by decide +kernel
theorem dL_law_999 : decode cL_law 999 = .ok (.iconst 1, 1) := by decide +kernel
theorem dL_law_1000 : decode cL_law 1000 = .ok (.iadd, 1) := by decide +kernel
theorem dL_law_1001 : decode cL_law 1001 = .ok (.iaload, 1) := by decide +kernel
theorem dL_law_1002 : decode cL_law 1002 = .ok (.invokevirtual 109, 3) := by decide +kernel
theorem dL_law_1005 : decode cL_law 1005 = .ok (.aload_n 2, 1) := by decide +kernel
theorem dL_law_1006 : decode cL_law 1006 = .ok (.aload_n 0, 1) := by decide +kernel
theorem dL_law_1007 : decode cL_law 1007 = .ok (.iload_n 3, 1) := by decide +kernel
theorem dL_law_1008 : decode cL_law 1008 = .ok (.iconst 1, 1) := by decide +kernel
theorem dL_law_1009 : decode cL_law 1009 = .ok (.iadd, 1) := by decide +kernel
theorem dL_law_1010 : decode cL_law 1010 = .ok (.iaload, 1) := by decide +kernel
theorem dL_law_1011 : decode cL_law 1011 = .ok (.invokevirtual 112, 3) := by decide +kernel
theorem dL_law_1014 : decode cL_law 1014 = .ok (.if_icmp .eq 790, 3) := by decide +kernel
theorem dL_law_1017 : decode cL_law 1017 = .ok (.iconst 0, 1) := by decide +kernel
theorem dL_law_1018 : decode cL_law 1018 = .ok (.ireturn, 1) := by decide +kernel
theorem dL_law_1019 : decode cL_law 1019 = .ok (.aload_n 1, 1) := by decide +kernel
theorem dL_law_1020 : decode cL_law 1020 = .ok (.aload_n 0, 1) := by decide +kernel
theorem dL_law_1021 : decode cL_law 1021 = .ok (.iload_n 3, 1) := by decide +kernel
theorem dL_law_1022 : decode cL_law 1022 = .ok (.iconst 1, 1) := by decide +kernel
theorem dL_law_1023 : decode cL_law 1023 = .ok (.iadd, 1) := by decide +kernel
theorem dL_law_1024 : decode cL_law 1024 = .ok (.iaload, 1) := by decide +kernel
theorem dL_law_1025 : decode cL_law 1025 = .ok (.aload_n 0, 1) := by decide +kernel
theorem dL_law_1026 : decode cL_law 1026 = .ok (.iload_n 3, 1) := by decide +kernel
theorem dL_law_1027 : decode cL_law 1027 = .ok (.iconst 2, 1) := by decide +kernel
theorem dL_law_1028 : decode cL_law 1028 = .ok (.iadd, 1) := by decide +kernel
theorem dL_law_1029 : decode cL_law 1029 = .ok (.iaload, 1) := by decide +kernel
theorem dL_law_1030 : decode cL_law 1030 = .ok (.aload_n 0, 1) := by decide +kernel
theorem dL_law_1031 : decode cL_law 1031 = .ok (.iload_n 3, 1) := by decide +kernel
theorem dL_law_1032 : decode cL_law 1032 = .ok (.iconst 3, 1) := by decide +kernel
theorem dL_law_1033 : decode cL_law 1033 = .ok (.iadd, 1) := by decide +kernel
theorem dL_law_1034 : decode cL_law 1034 = .ok (.iaload, 1) := by decide +kernel
theorem dL_law_1035 : decode cL_law 1035 = .ok (.invokevirtual 113, 3) := by decide +kernel
theorem dL_law_1038 : decode cL_law 1038 = .ok (.aload_n 2, 1) := by decide +kernel
theorem dL_law_1039 : decode cL_law 1039 = .ok (.aload_n 0, 1) := by decide +kernel
theorem dL_law_1040 : decode cL_law 1040 = .ok (.iload_n 3, 1) := by decide +kernel
theorem dL_law_1041 : decode cL_law 1041 = .ok (.iconst 1, 1) := by decide +kernel
theorem dL_law_1042 : decode cL_law 1042 = .ok (.iadd, 1) := by decide +kernel
theorem dL_law_1043 : decode cL_law 1043 = .ok (.iaload, 1) := by decide +kernel
theorem dL_law_1044 : decode cL_law 1044 = .ok (.aload_n 0, 1) := by decide +kernel
theorem dL_law_1045 : decode cL_law 1045 = .ok (.iload_n 3, 1) := by decide +kernel
theorem dL_law_1046 : decode cL_law 1046 = .ok (.iconst 2, 1) := by decide +kernel
theorem dL_law_1047 : decode cL_law 1047 = .ok (.iadd, 1) := by decide +kernel
theorem dL_law_1048 : decode cL_law 1048 = .ok (.iaload, 1) := by decide +kernel
theorem dL_law_1049 : decode cL_law 1049 = .ok (.aload_n 0, 1) := by decide +kernel
theorem dL_law_1050 : decode cL_law 1050 = .ok (.iload_n 3, 1) := by decide +kernel
theorem dL_law_1051 : decode cL_law 1051 = .ok (.iconst 3, 1) := by decide +kernel
theorem dL_law_1052 : decode cL_law 1052 = .ok (.iadd, 1) := by decide +kernel
theorem dL_law_1053 : decode cL_law 1053 = .ok (.iaload, 1) := by decide +kernel
theorem dL_law_1054 : decode cL_law 1054 = .ok (.invokevirtual 117, 3) := by decide +kernel
theorem dL_law_1057 : decode cL_law 1057 = .ok (.if_icmp .eq 747, 3) := by decide +kernel
theorem dL_law_1060 : decode cL_law 1060 = .ok (.iconst 0, 1) := by decide +kernel
theorem dL_law_1061 : decode cL_law 1061 = .ok (.ireturn, 1) := by decide +kernel
theorem dL_law_1062 : decode cL_law 1062 = .ok (.aload_n 1, 1) := by decide +kernel
theorem dL_law_1063 : decode cL_law 1063 = .ok (.aload_n 0, 1) := by decide +kernel
theorem dL_law_1064 : decode cL_law 1064 = .ok (.iload_n 3, 1) := by decide +kernel
theorem dL_law_1065 : decode cL_law 1065 = .ok (.iconst 1, 1) := by decide +kernel
theorem dL_law_1066 : decode cL_law 1066 = .ok (.iadd, 1) := by decide +kernel
theorem dL_law_1067 : decode cL_law 1067 = .ok (.iaload, 1) := by decide +kernel
theorem dL_law_1068 : decode cL_law 1068 = .ok (.aload_n 0, 1) := by decide +kernel
theorem dL_law_1069 : decode cL_law 1069 = .ok (.iload_n 3, 1) := by decide +kernel
theorem dL_law_1070 : decode cL_law 1070 = .ok (.iconst 2, 1) := by decide +kernel
theorem dL_law_1071 : decode cL_law 1071 = .ok (.iadd, 1) := by decide +kernel
theorem dL_law_1072 : decode cL_law 1072 = .ok (.iaload, 1) := by decide +kernel
theorem dL_law_1073 : decode cL_law 1073 = .ok (.aload_n 0, 1) := by decide +kernel
theorem dL_law_1074 : decode cL_law 1074 = .ok (.iload_n 3, 1) := by decide +kernel
theorem dL_law_1075 : decode cL_law 1075 = .ok (.iconst 3, 1) := by decide +kernel
theorem dL_law_1076 : decode cL_law 1076 = .ok (.iadd, 1) := by decide +kernel
theorem dL_law_1077 : decode cL_law 1077 = .ok (.iaload, 1) := by decide +kernel
theorem dL_law_1078 : decode cL_law 1078 = .ok (.invokevirtual 118, 3) := by decide +kernel
theorem dL_law_1081 : decode cL_law 1081 = .ok (.aload_n 2, 1) := by decide +kernel
theorem dL_law_1082 : decode cL_law 1082 = .ok (.aload_n 0, 1) := by decide +kernel
theorem dL_law_1083 : decode cL_law 1083 = .ok (.iload_n 3, 1) := by decide +kernel
theorem dL_law_1084 : decode cL_law 1084 = .ok (.iconst 1, 1) := by decide +kernel
theorem dL_law_1085 : decode cL_law 1085 = .ok (.iadd, 1) := by decide +kernel
theorem dL_law_1086 : decode cL_law 1086 = .ok (.iaload, 1) := by decide +kernel
theorem dL_law_1087 : decode cL_law 1087 = .ok (.aload_n 0, 1) := by decide +kernel
theorem dL_law_1088 : decode cL_law 1088 = .ok (.iload_n 3, 1) := by decide +kernel
theorem dL_law_1089 : decode cL_law 1089 = .ok (.iconst 2, 1) := by decide +kernel
theorem dL_law_1090 : decode cL_law 1090 = .ok (.iadd, 1) := by decide +kernel
theorem dL_law_1091 : decode cL_law 1091 = .ok (.iaload, 1) := by decide +kernel
theorem dL_law_1092 : decode cL_law 1092 = .ok (.aload_n 0, 1) := by decide +kernel
theorem dL_law_1093 : decode cL_law 1093 = .ok (.iload_n 3, 1) := by decide +kernel
theorem dL_law_1094 : decode cL_law 1094 = .ok (.iconst 3, 1) := by decide +kernel
theorem dL_law_1095 : decode cL_law 1095 = .ok (.iadd, 1) := by decide +kernel
theorem dL_law_1096 : decode cL_law 1096 = .ok (.iaload, 1) := by decide +kernel
theorem dL_law_1097 : decode cL_law 1097 = .ok (.invokevirtual 121, 3) := by decide +kernel
theorem dL_law_1100 : decode cL_law 1100 = .ok (.if_icmp .eq 704, 3) := by decide +kernel
theorem dL_law_1103 : decode cL_law 1103 = .ok (.iconst 0, 1) := by decide +kernel
theorem dL_law_1104 : decode cL_law 1104 = .ok (.ireturn, 1) := by decide +kernel
theorem dL_law_1105 : decode cL_law 1105 = .ok (.aload_n 1, 1) := by decide +kernel
theorem dL_law_1106 : decode cL_law 1106 = .ok (.aload_n 0, 1) := by decide +kernel
theorem dL_law_1107 : decode cL_law 1107 = .ok (.iload_n 3, 1) := by decide +kernel
theorem dL_law_1108 : decode cL_law 1108 = .ok (.iconst 1, 1) := by decide +kernel
theorem dL_law_1109 : decode cL_law 1109 = .ok (.iadd, 1) := by decide +kernel
theorem dL_law_1110 : decode cL_law 1110 = .ok (.iaload, 1) := by decide +kernel
theorem dL_law_1111 : decode cL_law 1111 = .ok (.aload_n 0, 1) := by decide +kernel
theorem dL_law_1112 : decode cL_law 1112 = .ok (.iload_n 3, 1) := by decide +kernel
theorem dL_law_1113 : decode cL_law 1113 = .ok (.iconst 2, 1) := by decide +kernel
theorem dL_law_1114 : decode cL_law 1114 = .ok (.iadd, 1) := by decide +kernel
theorem dL_law_1115 : decode cL_law 1115 = .ok (.iaload, 1) := by decide +kernel
theorem dL_law_1116 : decode cL_law 1116 = .ok (.invokevirtual 122, 3) := by decide +kernel
theorem dL_law_1119 : decode cL_law 1119 = .ok (.aload_n 2, 1) := by decide +kernel
theorem dL_law_1120 : decode cL_law 1120 = .ok (.aload_n 0, 1) := by decide +kernel
theorem dL_law_1121 : decode cL_law 1121 = .ok (.iload_n 3, 1) := by decide +kernel
theorem dL_law_1122 : decode cL_law 1122 = .ok (.iconst 1, 1) := by decide +kernel
theorem dL_law_1123 : decode cL_law 1123 = .ok (.iadd, 1) := by decide +kernel
theorem dL_law_1124 : decode cL_law 1124 = .ok (.iaload, 1) := by decide +kernel
theorem dL_law_1125 : decode cL_law 1125 = .ok (.aload_n 0, 1) := by decide +kernel
theorem dL_law_1126 : decode cL_law 1126 = .ok (.iload_n 3, 1) := by decide +kernel
theorem dL_law_1127 : decode cL_law 1127 = .ok (.iconst 2, 1) := by decide +kernel
theorem dL_law_1128 : decode cL_law 1128 = .ok (.iadd, 1) := by decide +kernel
theorem dL_law_1129 : decode cL_law 1129 = .ok (.iaload, 1) := by decide +kernel
theorem dL_law_1130 : decode cL_law 1130 = .ok (.invokevirtual 125, 3) := by decide +kernel
theorem dL_law_1133 : decode cL_law 1133 = .ok (.if_icmp .eq 671, 3) := by decide +kernel
theorem dL_law_1136 : decode cL_law 1136 = .ok (.iconst 0, 1) := by decide +kernel
theorem dL_law_1137 : decode cL_law 1137 = .ok (.ireturn, 1) := by decide +kernel
theorem dL_law_1138 : decode cL_law 1138 = .ok (.aload_n 1, 1) := by decide +kernel
theorem dL_law_1139 : decode cL_law 1139 = .ok (.aload_n 0, 1) := by decide +kernel
theorem dL_law_1140 : decode cL_law 1140 = .ok (.iload_n 3, 1) := by decide +kernel
theorem dL_law_1141 : decode cL_law 1141 = .ok (.iconst 1, 1) := by decide +kernel
theorem dL_law_1142 : decode cL_law 1142 = .ok (.iadd, 1) := by decide +kernel
theorem dL_law_1143 : decode cL_law 1143 = .ok (.iaload, 1) := by decide +kernel
theorem dL_law_1144 : decode cL_law 1144 = .ok (.invokevirtual 126, 3) := by decide +kernel
theorem dL_law_1147 : decode cL_law 1147 = .ok (.aload_n 2, 1) := by decide +kernel
theorem dL_law_1148 : decode cL_law 1148 = .ok (.aload_n 0, 1) := by decide +kernel
theorem dL_law_1149 : decode cL_law 1149 = .ok (.iload_n 3, 1) := by decide +kernel
theorem dL_law_1150 : decode cL_law 1150 = .ok (.iconst 1, 1) := by decide +kernel
theorem dL_law_1151 : decode cL_law 1151 = .ok (.iadd, 1) := by decide +kernel
theorem dL_law_1152 : decode cL_law 1152 = .ok (.iaload, 1) := by decide +kernel
theorem dL_law_1153 : decode cL_law 1153 = .ok (.invokevirtual 129, 3) := by decide +kernel
theorem dL_law_1156 : decode cL_law 1156 = .ok (.if_icmp .eq 648, 3) := by decide +kernel
theorem dL_law_1159 : decode cL_law 1159 = .ok (.iconst 0, 1) := by decide +kernel
theorem dL_law_1160 : decode cL_law 1160 = .ok (.ireturn, 1) := by decide +kernel
theorem dL_law_1161 : decode cL_law 1161 = .ok (.aload_n 1, 1) := by decide +kernel
theorem dL_law_1162 : decode cL_law 1162 = .ok (.aload_n 0, 1) := by decide +kernel
theorem dL_law_1163 : decode cL_law 1163 = .ok (.iload_n 3, 1) := by decide +kernel
theorem dL_law_1164 : decode cL_law 1164 = .ok (.iconst 1, 1) := by decide +kernel
theorem dL_law_1165 : decode cL_law 1165 = .ok (.iadd, 1) := by decide +kernel
theorem dL_law_1166 : decode cL_law 1166 = .ok (.iaload, 1) := by decide +kernel
theorem dL_law_1167 : decode cL_law 1167 = .ok (.invokevirtual 130, 3) := by decide +kernel
theorem dL_law_1170 : decode cL_law 1170 = .ok (.aload_n 2, 1) := by decide +kernel
theorem dL_law_1171 : decode cL_law 1171 = .ok (.aload_n 0, 1) := by decide +kernel
theorem dL_law_1172 : decode cL_law 1172 = .ok (.iload_n 3, 1) := by decide +kernel
theorem dL_law_1173 : decode cL_law 1173 = .ok (.iconst 1, 1) := by decide +kernel
theorem dL_law_1174 : decode cL_law 1174 = .ok (.iadd, 1) := by decide +kernel
theorem dL_law_1175 : decode cL_law 1175 = .ok (.iaload, 1) := by decide +kernel
theorem dL_law_1176 : decode cL_law 1176 = .ok (.invokevirtual 133, 3) := by decide +kernel
theorem dL_law_1179 : decode cL_law 1179 = .ok (.if_icmp .eq 625, 3) := by decide +kernel
theorem dL_law_1182 : decode cL_law 1182 = .ok (.iconst 0, 1) := by decide +kernel
theorem dL_law_1183 : decode cL_law 1183 = .ok (.ireturn, 1) := by decide +kernel
theorem dL_law_1184 : decode cL_law 1184 = .ok (.aload_n 1, 1) := by decide +kernel
theorem dL_law_1185 : decode cL_law 1185 = .ok (.aload_n 0, 1) := by decide +kernel
theorem dL_law_1186 : decode cL_law 1186 = .ok (.iload_n 3, 1) := by decide +kernel
theorem dL_law_1187 : decode cL_law 1187 = .ok (.iconst 1, 1) := by decide +kernel
theorem dL_law_1188 : decode cL_law 1188 = .ok (.iadd, 1) := by decide +kernel
theorem dL_law_1189 : decode cL_law 1189 = .ok (.iaload, 1) := by decide +kernel
theorem dL_law_1190 : decode cL_law 1190 = .ok (.aload_n 0, 1) := by decide +kernel
theorem dL_law_1191 : decode cL_law 1191 = .ok (.iload_n 3, 1) := by decide +kernel
theorem dL_law_1192 : decode cL_law 1192 = .ok (.iconst 2, 1) := by decide +kernel
theorem dL_law_1193 : decode cL_law 1193 = .ok (.iadd, 1) := by decide +kernel
theorem dL_law_1194 : decode cL_law 1194 = .ok (.iaload, 1) := by decide +kernel
theorem dL_law_1195 : decode cL_law 1195 = .ok (.aload_n 0, 1) := by decide +kernel
theorem dL_law_1196 : decode cL_law 1196 = .ok (.iload_n 3, 1) := by decide +kernel
theorem dL_law_1197 : decode cL_law 1197 = .ok (.iconst 3, 1) := by decide +kernel
theorem dL_law_1198 : decode cL_law 1198 = .ok (.iadd, 1) := by decide +kernel
theorem dL_law_1199 : decode cL_law 1199 = .ok (.iaload, 1) := by decide +kernel
theorem dL_law_1200 : decode cL_law 1200 = .ok (.invokevirtual 134, 3) := by decide +kernel
theorem dL_law_1203 : decode cL_law 1203 = .ok (.aload_n 2, 1) := by decide +kernel
theorem dL_law_1204 : decode cL_law 1204 = .ok (.aload_n 0, 1) := by decide +kernel
theorem dL_law_1205 : decode cL_law 1205 = .ok (.iload_n 3, 1) := by decide +kernel
theorem dL_law_1206 : decode cL_law 1206 = .ok (.iconst 1, 1) := by decide +kernel
theorem dL_law_1207 : decode cL_law 1207 = .ok (.iadd, 1) := by decide +kernel
theorem dL_law_1208 : decode cL_law 1208 = .ok (.iaload, 1) := by decide +kernel
theorem dL_law_1209 : decode cL_law 1209 = .ok (.aload_n 0, 1) := by decide +kernel
theorem dL_law_1210 : decode cL_law 1210 = .ok (.iload_n 3, 1) := by decide +kernel
theorem dL_law_1211 : decode cL_law 1211 = .ok (.iconst 2, 1) := by decide +kernel
theorem dL_law_1212 : decode cL_law 1212 = .ok (.iadd, 1) := by decide +kernel
theorem dL_law_1213 : decode cL_law 1213 = .ok (.iaload, 1) := by decide +kernel
theorem dL_law_1214 : decode cL_law 1214 = .ok (.aload_n 0, 1) := by decide +kernel
theorem dL_law_1215 : decode cL_law 1215 = .ok (.iload_n 3, 1) := by decide +kernel
theorem dL_law_1216 : decode cL_law 1216 = .ok (.iconst 3, 1) := by decide +kernel
theorem dL_law_1217 : decode cL_law 1217 = .ok (.iadd, 1) := by decide +kernel
theorem dL_law_1218 : decode cL_law 1218 = .ok (.iaload, 1) := by decide +kernel
theorem dL_law_1219 : decode cL_law 1219 = .ok (.invokevirtual 137, 3) := by decide +kernel
theorem dL_law_1222 : decode cL_law 1222 = .ok (.if_icmp .eq 582, 3) := by decide +kernel
theorem dL_law_1225 : decode cL_law 1225 = .ok (.iconst 0, 1) := by decide +kernel
theorem dL_law_1226 : decode cL_law 1226 = .ok (.ireturn, 1) := by decide +kernel
theorem dL_law_1227 : decode cL_law 1227 = .ok (.aload_n 1, 1) := by decide +kernel
theorem dL_law_1228 : decode cL_law 1228 = .ok (.aload_n 0, 1) := by decide +kernel
theorem dL_law_1229 : decode cL_law 1229 = .ok (.iload_n 3, 1) := by decide +kernel
theorem dL_law_1230 : decode cL_law 1230 = .ok (.iconst 1, 1) := by decide +kernel
theorem dL_law_1231 : decode cL_law 1231 = .ok (.iadd, 1) := by decide +kernel
theorem dL_law_1232 : decode cL_law 1232 = .ok (.iaload, 1) := by decide +kernel
theorem dL_law_1233 : decode cL_law 1233 = .ok (.invokevirtual 138, 3) := by decide +kernel
theorem dL_law_1236 : decode cL_law 1236 = .ok (.aload_n 2, 1) := by decide +kernel
theorem dL_law_1237 : decode cL_law 1237 = .ok (.aload_n 0, 1) := by decide +kernel
theorem dL_law_1238 : decode cL_law 1238 = .ok (.iload_n 3, 1) := by decide +kernel
theorem dL_law_1239 : decode cL_law 1239 = .ok (.iconst 1, 1) := by decide +kernel
theorem dL_law_1240 : decode cL_law 1240 = .ok (.iadd, 1) := by decide +kernel
theorem dL_law_1241 : decode cL_law 1241 = .ok (.iaload, 1) := by decide +kernel
theorem dL_law_1242 : decode cL_law 1242 = .ok (.invokevirtual 141, 3) := by decide +kernel
theorem dL_law_1245 : decode cL_law 1245 = .ok (.if_icmp .eq 559, 3) := by decide +kernel
theorem dL_law_1248 : decode cL_law 1248 = .ok (.iconst 0, 1) := by decide +kernel
theorem dL_law_1249 : decode cL_law 1249 = .ok (.ireturn, 1) := by decide +kernel
theorem dL_law_1250 : decode cL_law 1250 = .ok (.aload_n 1, 1) := by decide +kernel
theorem dL_law_1251 : decode cL_law 1251 = .ok (.aload_n 0, 1) := by decide +kernel
theorem dL_law_1252 : decode cL_law 1252 = .ok (.iload_n 3, 1) := by decide +kernel
theorem dL_law_1253 : decode cL_law 1253 = .ok (.iconst 1, 1) := by decide +kernel
theorem dL_law_1254 : decode cL_law 1254 = .ok (.iadd, 1) := by decide +kernel
theorem dL_law_1255 : decode cL_law 1255 = .ok (.iaload, 1) := by decide +kernel
theorem dL_law_1256 : decode cL_law 1256 = .ok (.aload_n 0, 1) := by decide +kernel
theorem dL_law_1257 : decode cL_law 1257 = .ok (.iload_n 3, 1) := by decide +kernel
theorem dL_law_1258 : decode cL_law 1258 = .ok (.iconst 2, 1) := by decide +kernel
theorem dL_law_1259 : decode cL_law 1259 = .ok (.iadd, 1) := by decide +kernel
theorem dL_law_1260 : decode cL_law 1260 = .ok (.iaload, 1) := by decide +kernel
theorem dL_law_1261 : decode cL_law 1261 = .ok (.invokevirtual 142, 3) := by decide +kernel
theorem dL_law_1264 : decode cL_law 1264 = .ok (.aload_n 2, 1) := by decide +kernel
theorem dL_law_1265 : decode cL_law 1265 = .ok (.aload_n 0, 1) := by decide +kernel
theorem dL_law_1266 : decode cL_law 1266 = .ok (.iload_n 3, 1) := by decide +kernel
theorem dL_law_1267 : decode cL_law 1267 = .ok (.iconst 1, 1) := by decide +kernel
theorem dL_law_1268 : decode cL_law 1268 = .ok (.iadd, 1) := by decide +kernel
theorem dL_law_1269 : decode cL_law 1269 = .ok (.iaload, 1) := by decide +kernel
theorem dL_law_1270 : decode cL_law 1270 = .ok (.aload_n 0, 1) := by decide +kernel
theorem dL_law_1271 : decode cL_law 1271 = .ok (.iload_n 3, 1) := by decide +kernel
theorem dL_law_1272 : decode cL_law 1272 = .ok (.iconst 2, 1) := by decide +kernel
theorem dL_law_1273 : decode cL_law 1273 = .ok (.iadd, 1) := by decide +kernel
theorem dL_law_1274 : decode cL_law 1274 = .ok (.iaload, 1) := by decide +kernel
theorem dL_law_1275 : decode cL_law 1275 = .ok (.invokevirtual 145, 3) := by decide +kernel
theorem dL_law_1278 : decode cL_law 1278 = .ok (.if_icmp .eq 526, 3) := by decide +kernel
theorem dL_law_1281 : decode cL_law 1281 = .ok (.iconst 0, 1) := by decide +kernel
theorem dL_law_1282 : decode cL_law 1282 = .ok (.ireturn, 1) := by decide +kernel
theorem dL_law_1283 : decode cL_law 1283 = .ok (.aload_n 1, 1) := by decide +kernel
theorem dL_law_1284 : decode cL_law 1284 = .ok (.aload_n 0, 1) := by decide +kernel
theorem dL_law_1285 : decode cL_law 1285 = .ok (.iload_n 3, 1) := by decide +kernel
theorem dL_law_1286 : decode cL_law 1286 = .ok (.iconst 1, 1) := by decide +kernel
theorem dL_law_1287 : decode cL_law 1287 = .ok (.iadd, 1) := by decide +kernel
theorem dL_law_1288 : decode cL_law 1288 = .ok (.iaload, 1) := by decide +kernel
theorem dL_law_1289 : decode cL_law 1289 = .ok (.invokevirtual 146, 3) := by decide +kernel
theorem dL_law_1292 : decode cL_law 1292 = .ok (.aload_n 2, 1) := by decide +kernel
theorem dL_law_1293 : decode cL_law 1293 = .ok (.aload_n 0, 1) := by decide +kernel
theorem dL_law_1294 : decode cL_law 1294 = .ok (.iload_n 3, 1) := by decide +kernel
theorem dL_law_1295 : decode cL_law 1295 = .ok (.iconst 1, 1) := by decide +kernel
theorem dL_law_1296 : decode cL_law 1296 = .ok (.iadd, 1) := by decide +kernel
theorem dL_law_1297 : decode cL_law 1297 = .ok (.iaload, 1) := by decide +kernel
theorem dL_law_1298 : decode cL_law 1298 = .ok (.invokevirtual 149, 3) := by decide +kernel
theorem dL_law_1301 : decode cL_law 1301 = .ok (.if_icmp .eq 503, 3) := by decide +kernel
theorem dL_law_1304 : decode cL_law 1304 = .ok (.iconst 0, 1) := by decide +kernel
theorem dL_law_1305 : decode cL_law 1305 = .ok (.ireturn, 1) := by decide +kernel
theorem dL_law_1306 : decode cL_law 1306 = .ok (.aload_n 1, 1) := by decide +kernel
theorem dL_law_1307 : decode cL_law 1307 = .ok (.aload_n 0, 1) := by decide +kernel
theorem dL_law_1308 : decode cL_law 1308 = .ok (.iload_n 3, 1) := by decide +kernel
theorem dL_law_1309 : decode cL_law 1309 = .ok (.iconst 1, 1) := by decide +kernel
theorem dL_law_1310 : decode cL_law 1310 = .ok (.iadd, 1) := by decide +kernel
theorem dL_law_1311 : decode cL_law 1311 = .ok (.iaload, 1) := by decide +kernel
theorem dL_law_1312 : decode cL_law 1312 = .ok (.invokevirtual 150, 3) := by decide +kernel
theorem dL_law_1315 : decode cL_law 1315 = .ok (.aload_n 2, 1) := by decide +kernel
theorem dL_law_1316 : decode cL_law 1316 = .ok (.aload_n 0, 1) := by decide +kernel
theorem dL_law_1317 : decode cL_law 1317 = .ok (.iload_n 3, 1) := by decide +kernel
theorem dL_law_1318 : decode cL_law 1318 = .ok (.iconst 1, 1) := by decide +kernel
theorem dL_law_1319 : decode cL_law 1319 = .ok (.iadd, 1) := by decide +kernel
theorem dL_law_1320 : decode cL_law 1320 = .ok (.iaload, 1) := by decide +kernel
theorem dL_law_1321 : decode cL_law 1321 = .ok (.invokevirtual 153, 3) := by decide +kernel
theorem dL_law_1324 : decode cL_law 1324 = .ok (.if_icmp .eq 480, 3) := by decide +kernel
theorem dL_law_1327 : decode cL_law 1327 = .ok (.iconst 0, 1) := by decide +kernel
theorem dL_law_1328 : decode cL_law 1328 = .ok (.ireturn, 1) := by decide +kernel
theorem dL_law_1329 : decode cL_law 1329 = .ok (.aload_n 1, 1) := by decide +kernel
theorem dL_law_1330 : decode cL_law 1330 = .ok (.aload_n 0, 1) := by decide +kernel
theorem dL_law_1331 : decode cL_law 1331 = .ok (.iload_n 3, 1) := by decide +kernel
theorem dL_law_1332 : decode cL_law 1332 = .ok (.iconst 1, 1) := by decide +kernel
theorem dL_law_1333 : decode cL_law 1333 = .ok (.iadd, 1) := by decide +kernel
theorem dL_law_1334 : decode cL_law 1334 = .ok (.iaload, 1) := by decide +kernel
theorem dL_law_1335 : decode cL_law 1335 = .ok (.invokevirtual 154, 3) := by decide +kernel
theorem dL_law_1338 : decode cL_law 1338 = .ok (.aload_n 2, 1) := by decide +kernel
theorem dL_law_1339 : decode cL_law 1339 = .ok (.aload_n 0, 1) := by decide +kernel
theorem dL_law_1340 : decode cL_law 1340 = .ok (.iload_n 3, 1) := by decide +kernel
theorem dL_law_1341 : decode cL_law 1341 = .ok (.iconst 1, 1) := by decide +kernel
theorem dL_law_1342 : decode cL_law 1342 = .ok (.iadd, 1) := by decide +kernel
theorem dL_law_1343 : decode cL_law 1343 = .ok (.iaload, 1) := by decide +kernel
theorem dL_law_1344 : decode cL_law 1344 = .ok (.invokevirtual 157, 3) := by decide +kernel
theorem dL_law_1347 : decode cL_law 1347 = .ok (.if_icmp .eq 457, 3) := by decide +kernel
theorem dL_law_1350 : decode cL_law 1350 = .ok (.iconst 0, 1) := by decide +kernel
theorem dL_law_1351 : decode cL_law 1351 = .ok (.ireturn, 1) := by decide +kernel
theorem dL_law_1352 : decode cL_law 1352 = .ok (.aload_n 1, 1) := by decide +kernel
theorem dL_law_1353 : decode cL_law 1353 = .ok (.aload_n 0, 1) := by decide +kernel
theorem dL_law_1354 : decode cL_law 1354 = .ok (.iload_n 3, 1) := by decide +kernel
theorem dL_law_1355 : decode cL_law 1355 = .ok (.iconst 1, 1) := by decide +kernel
theorem dL_law_1356 : decode cL_law 1356 = .ok (.iadd, 1) := by decide +kernel
theorem dL_law_1357 : decode cL_law 1357 = .ok (.iaload, 1) := by decide +kernel
theorem dL_law_1358 : decode cL_law 1358 = .ok (.invokevirtual 158, 3) := by decide +kernel
theorem dL_law_1361 : decode cL_law 1361 = .ok (.aload_n 2, 1) := by decide +kernel
theorem dL_law_1362 : decode cL_law 1362 = .ok (.aload_n 0, 1) := by decide +kernel
theorem dL_law_1363 : decode cL_law 1363 = .ok (.iload_n 3, 1) := by decide +kernel
theorem dL_law_1364 : decode cL_law 1364 = .ok (.iconst 1, 1) := by decide +kernel
theorem dL_law_1365 : decode cL_law 1365 = .ok (.iadd, 1) := by decide +kernel
theorem dL_law_1366 : decode cL_law 1366 = .ok (.iaload, 1) := by decide +kernel
theorem dL_law_1367 : decode cL_law 1367 = .ok (.invokevirtual 161, 3) := by decide +kernel
theorem dL_law_1370 : decode cL_law 1370 = .ok (.if_icmp .eq 434, 3) := by decide +kernel
theorem dL_law_1373 : decode cL_law 1373 = .ok (.iconst 0, 1) := by decide +kernel
theorem dL_law_1374 : decode cL_law 1374 = .ok (.ireturn, 1) := by decide +kernel
theorem dL_law_1375 : decode cL_law 1375 = .ok (.aload_n 1, 1) := by decide +kernel
theorem dL_law_1376 : decode cL_law 1376 = .ok (.aload_n 0, 1) := by decide +kernel
theorem dL_law_1377 : decode cL_law 1377 = .ok (.iload_n 3, 1) := by decide +kernel
theorem dL_law_1378 : decode cL_law 1378 = .ok (.iconst 1, 1) := by decide +kernel
theorem dL_law_1379 : decode cL_law 1379 = .ok (.iadd, 1) := by decide +kernel
theorem dL_law_1380 : decode cL_law 1380 = .ok (.iaload, 1) := by decide +kernel
theorem dL_law_1381 : decode cL_law 1381 = .ok (.invokevirtual 162, 3) := by decide +kernel
theorem dL_law_1384 : decode cL_law 1384 = .ok (.aload_n 2, 1) := by decide +kernel
theorem dL_law_1385 : decode cL_law 1385 = .ok (.aload_n 0, 1) := by decide +kernel
theorem dL_law_1386 : decode cL_law 1386 = .ok (.iload_n 3, 1) := by decide +kernel
theorem dL_law_1387 : decode cL_law 1387 = .ok (.iconst 1, 1) := by decide +kernel
theorem dL_law_1388 : decode cL_law 1388 = .ok (.iadd, 1) := by decide +kernel
theorem dL_law_1389 : decode cL_law 1389 = .ok (.iaload, 1) := by decide +kernel
theorem dL_law_1390 : decode cL_law 1390 = .ok (.invokevirtual 165, 3) := by decide +kernel
theorem dL_law_1393 : decode cL_law 1393 = .ok (.if_icmp .eq 411, 3) := by decide +kernel
theorem dL_law_1396 : decode cL_law 1396 = .ok (.iconst 0, 1) := by decide +kernel
theorem dL_law_1397 : decode cL_law 1397 = .ok (.ireturn, 1) := by decide +kernel
theorem dL_law_1398 : decode cL_law 1398 = .ok (.aload_n 1, 1) := by decide +kernel
theorem dL_law_1399 : decode cL_law 1399 = .ok (.aload_n 0, 1) := by decide +kernel
theorem dL_law_1400 : decode cL_law 1400 = .ok (.iload_n 3, 1) := by decide +kernel
theorem dL_law_1401 : decode cL_law 1401 = .ok (.iconst 1, 1) := by decide +kernel
theorem dL_law_1402 : decode cL_law 1402 = .ok (.iadd, 1) := by decide +kernel
theorem dL_law_1403 : decode cL_law 1403 = .ok (.iaload, 1) := by decide +kernel
theorem dL_law_1404 : decode cL_law 1404 = .ok (.aload_n 0, 1) := by decide +kernel
theorem dL_law_1405 : decode cL_law 1405 = .ok (.iload_n 3, 1) := by decide +kernel
theorem dL_law_1406 : decode cL_law 1406 = .ok (.iconst 2, 1) := by decide +kernel
theorem dL_law_1407 : decode cL_law 1407 = .ok (.iadd, 1) := by decide +kernel
theorem dL_law_1408 : decode cL_law 1408 = .ok (.iaload, 1) := by decide +kernel
theorem dL_law_1409 : decode cL_law 1409 = .ok (.aload_n 0, 1) := by decide +kernel
theorem dL_law_1410 : decode cL_law 1410 = .ok (.iload_n 3, 1) := by decide +kernel
theorem dL_law_1411 : decode cL_law 1411 = .ok (.iconst 3, 1) := by decide +kernel
theorem dL_law_1412 : decode cL_law 1412 = .ok (.iadd, 1) := by decide +kernel
theorem dL_law_1413 : decode cL_law 1413 = .ok (.iaload, 1) := by decide +kernel
theorem dL_law_1414 : decode cL_law 1414 = .ok (.invokevirtual 166, 3) := by decide +kernel
theorem dL_law_1417 : decode cL_law 1417 = .ok (.aload_n 2, 1) := by decide +kernel
theorem dL_law_1418 : decode cL_law 1418 = .ok (.aload_n 0, 1) := by decide +kernel
theorem dL_law_1419 : decode cL_law 1419 = .ok (.iload_n 3, 1) := by decide +kernel
theorem dL_law_1420 : decode cL_law 1420 = .ok (.iconst 1, 1) := by decide +kernel
theorem dL_law_1421 : decode cL_law 1421 = .ok (.iadd, 1) := by decide +kernel
theorem dL_law_1422 : decode cL_law 1422 = .ok (.iaload, 1) := by decide +kernel
theorem dL_law_1423 : decode cL_law 1423 = .ok (.aload_n 0, 1) := by decide +kernel
theorem dL_law_1424 : decode cL_law 1424 = .ok (.iload_n 3, 1) := by decide +kernel
theorem dL_law_1425 : decode cL_law 1425 = .ok (.iconst 2, 1) := by decide +kernel
theorem dL_law_1426 : decode cL_law 1426 = .ok (.iadd, 1) := by decide +kernel
theorem dL_law_1427 : decode cL_law 1427 = .ok (.iaload, 1) := by decide +kernel
theorem dL_law_1428 : decode cL_law 1428 = .ok (.aload_n 0, 1) := by decide +kernel
theorem dL_law_1429 : decode cL_law 1429 = .ok (.iload_n 3, 1) := by decide +kernel
theorem dL_law_1430 : decode cL_law 1430 = .ok (.iconst 3, 1) := by decide +kernel
theorem dL_law_1431 : decode cL_law 1431 = .ok (.iadd, 1) := by decide +kernel
theorem dL_law_1432 : decode cL_law 1432 = .ok (.iaload, 1) := by decide +kernel
theorem dL_law_1433 : decode cL_law 1433 = .ok (.invokevirtual 169, 3) := by decide +kernel
theorem dL_law_1436 : decode cL_law 1436 = .ok (.if_icmp .eq 368, 3) := by decide +kernel
theorem dL_law_1439 : decode cL_law 1439 = .ok (.iconst 0, 1) := by decide +kernel
theorem dL_law_1440 : decode cL_law 1440 = .ok (.ireturn, 1) := by decide +kernel
theorem dL_law_1441 : decode cL_law 1441 = .ok (.aload_n 1, 1) := by decide +kernel
theorem dL_law_1442 : decode cL_law 1442 = .ok (.aload_n 0, 1) := by decide +kernel
theorem dL_law_1443 : decode cL_law 1443 = .ok (.iload_n 3, 1) := by decide +kernel
theorem dL_law_1444 : decode cL_law 1444 = .ok (.iconst 1, 1) := by decide +kernel
theorem dL_law_1445 : decode cL_law 1445 = .ok (.iadd, 1) := by decide +kernel
theorem dL_law_1446 : decode cL_law 1446 = .ok (.iaload, 1) := by decide +kernel
theorem dL_law_1447 : decode cL_law 1447 = .ok (.aload_n 0, 1) := by decide +kernel
theorem dL_law_1448 : decode cL_law 1448 = .ok (.iload_n 3, 1) := by decide +kernel
theorem dL_law_1449 : decode cL_law 1449 = .ok (.iconst 2, 1) := by decide +kernel
theorem dL_law_1450 : decode cL_law 1450 = .ok (.iadd, 1) := by decide +kernel
theorem dL_law_1451 : decode cL_law 1451 = .ok (.iaload, 1) := by decide +kernel
theorem dL_law_1452 : decode cL_law 1452 = .ok (.invokevirtual 170, 3) := by decide +kernel
theorem dL_law_1455 : decode cL_law 1455 = .ok (.aload_n 2, 1) := by decide +kernel
theorem dL_law_1456 : decode cL_law 1456 = .ok (.aload_n 0, 1) := by decide +kernel
theorem dL_law_1457 : decode cL_law 1457 = .ok (.iload_n 3, 1) := by decide +kernel
theorem dL_law_1458 : decode cL_law 1458 = .ok (.iconst 1, 1) := by decide +kernel
theorem dL_law_1459 : decode cL_law 1459 = .ok (.iadd, 1) := by decide +kernel
theorem dL_law_1460 : decode cL_law 1460 = .ok (.iaload, 1) := by decide +kernel
theorem dL_law_1461 : decode cL_law 1461 = .ok (.aload_n 0, 1) := by decide +kernel
theorem dL_law_1462 : decode cL_law 1462 = .ok (.iload_n 3, 1) := by decide +kernel
theorem dL_law_1463 : decode cL_law 1463 = .ok (.iconst 2, 1) := by decide +kernel
theorem dL_law_1464 : decode cL_law 1464 = .ok (.iadd, 1) := by decide +kernel
theorem dL_law_1465 : decode cL_law 1465 = .ok (.iaload, 1) := by decide +kernel
theorem dL_law_1466 : decode cL_law 1466 = .ok (.invokevirtual 173, 3) := by decide +kernel
theorem dL_law_1469 : decode cL_law 1469 = .ok (.if_icmp .eq 335, 3) := by decide +kernel
theorem dL_law_1472 : decode cL_law 1472 = .ok (.iconst 0, 1) := by decide +kernel
theorem dL_law_1473 : decode cL_law 1473 = .ok (.ireturn, 1) := by decide +kernel
theorem dL_law_1474 : decode cL_law 1474 = .ok (.aload_n 1, 1) := by decide +kernel
theorem dL_law_1475 : decode cL_law 1475 = .ok (.aload_n 0, 1) := by decide +kernel
theorem dL_law_1476 : decode cL_law 1476 = .ok (.iload_n 3, 1) := by decide +kernel
theorem dL_law_1477 : decode cL_law 1477 = .ok (.iconst 1, 1) := by decide +kernel
theorem dL_law_1478 : decode cL_law 1478 = .ok (.iadd, 1) := by decide +kernel
theorem dL_law_1479 : decode cL_law 1479 = .ok (.iaload, 1) := by decide +kernel
theorem dL_law_1480 : decode cL_law 1480 = .ok (.aload_n 0, 1) := by decide +kernel
theorem dL_law_1481 : decode cL_law 1481 = .ok (.iload_n 3, 1) := by decide +kernel
theorem dL_law_1482 : decode cL_law 1482 = .ok (.iconst 2, 1) := by decide +kernel
theorem dL_law_1483 : decode cL_law 1483 = .ok (.iadd, 1) := by decide +kernel
theorem dL_law_1484 : decode cL_law 1484 = .ok (.iaload, 1) := by decide +kernel
theorem dL_law_1485 : decode cL_law 1485 = .ok (.invokevirtual 174, 3) := by decide +kernel
theorem dL_law_1488 : decode cL_law 1488 = .ok (.aload_n 2, 1) := by decide +kernel
theorem dL_law_1489 : decode cL_law 1489 = .ok (.aload_n 0, 1) := by decide +kernel
theorem dL_law_1490 : decode cL_law 1490 = .ok (.iload_n 3, 1) := by decide +kernel
theorem dL_law_1491 : decode cL_law 1491 = .ok (.iconst 1, 1) := by decide +kernel
theorem dL_law_1492 : decode cL_law 1492 = .ok (.iadd, 1) := by decide +kernel
theorem dL_law_1493 : decode cL_law 1493 = .ok (.iaload, 1) := by decide +kernel
theorem dL_law_1494 : decode cL_law 1494 = .ok (.aload_n 0, 1) := by decide +kernel
theorem dL_law_1495 : decode cL_law 1495 = .ok (.iload_n 3, 1) := by decide +kernel
theorem dL_law_1496 : decode cL_law 1496 = .ok (.iconst 2, 1) := by decide +kernel
theorem dL_law_1497 : decode cL_law 1497 = .ok (.iadd, 1) := by decide +kernel
theorem dL_law_1498 : decode cL_law 1498 = .ok (.iaload, 1) := by decide +kernel
theorem dL_law_1499 : decode cL_law 1499 = .ok (.invokevirtual 177, 3) := by decide +kernel
theorem dL_law_1502 : decode cL_law 1502 = .ok (.if_icmp .eq 302, 3) := by decide +kernel
theorem dL_law_1505 : decode cL_law 1505 = .ok (.iconst 0, 1) := by decide +kernel
theorem dL_law_1506 : decode cL_law 1506 = .ok (.ireturn, 1) := by decide +kernel
theorem dL_law_1507 : decode cL_law 1507 = .ok (.aload_n 1, 1) := by decide +kernel
theorem dL_law_1508 : decode cL_law 1508 = .ok (.aload_n 0, 1) := by decide +kernel
theorem dL_law_1509 : decode cL_law 1509 = .ok (.iload_n 3, 1) := by decide +kernel
theorem dL_law_1510 : decode cL_law 1510 = .ok (.iconst 1, 1) := by decide +kernel
theorem dL_law_1511 : decode cL_law 1511 = .ok (.iadd, 1) := by decide +kernel
theorem dL_law_1512 : decode cL_law 1512 = .ok (.iaload, 1) := by decide +kernel
theorem dL_law_1513 : decode cL_law 1513 = .ok (.aload_n 0, 1) := by decide +kernel
theorem dL_law_1514 : decode cL_law 1514 = .ok (.iload_n 3, 1) := by decide +kernel
theorem dL_law_1515 : decode cL_law 1515 = .ok (.iconst 2, 1) := by decide +kernel
theorem dL_law_1516 : decode cL_law 1516 = .ok (.iadd, 1) := by decide +kernel
theorem dL_law_1517 : decode cL_law 1517 = .ok (.iaload, 1) := by decide +kernel
theorem dL_law_1518 : decode cL_law 1518 = .ok (.invokevirtual 178, 3) := by decide +kernel
theorem dL_law_1521 : decode cL_law 1521 = .ok (.aload_n 2, 1) := by decide +kernel
theorem dL_law_1522 : decode cL_law 1522 = .ok (.aload_n 0, 1) := by decide +kernel
theorem dL_law_1523 : decode cL_law 1523 = .ok (.iload_n 3, 1) := by decide +kernel
theorem dL_law_1524 : decode cL_law 1524 = .ok (.iconst 1, 1) := by decide +kernel
theorem dL_law_1525 : decode cL_law 1525 = .ok (.iadd, 1) := by decide +kernel
theorem dL_law_1526 : decode cL_law 1526 = .ok (.iaload, 1) := by decide +kernel
theorem dL_law_1527 : decode cL_law 1527 = .ok (.aload_n 0, 1) := by decide +kernel
theorem dL_law_1528 : decode cL_law 1528 = .ok (.iload_n 3, 1) := by decide +kernel
theorem dL_law_1529 : decode cL_law 1529 = .ok (.iconst 2, 1) := by decide +kernel
theorem dL_law_1530 : decode cL_law 1530 = .ok (.iadd, 1) := by decide +kernel
theorem dL_law_1531 : decode cL_law 1531 = .ok (.iaload, 1) := by decide +kernel
theorem dL_law_1532 : decode cL_law 1532 = .ok (.invokevirtual 181, 3) := by decide +kernel
theorem dL_law_1535 : decode cL_law 1535 = .ok (.if_icmp .eq 269, 3) := by decide +kernel
theorem dL_law_1538 : decode cL_law 1538 = .ok (.iconst 0, 1) := by decide +kernel
theorem dL_law_1539 : decode cL_law 1539 = .ok (.ireturn, 1) := by decide +kernel
theorem dL_law_1540 : decode cL_law 1540 = .ok (.aload_n 1, 1) := by decide +kernel
theorem dL_law_1541 : decode cL_law 1541 = .ok (.aload_n 0, 1) := by decide +kernel
theorem dL_law_1542 : decode cL_law 1542 = .ok (.iload_n 3, 1) := by decide +kernel
theorem dL_law_1543 : decode cL_law 1543 = .ok (.iconst 1, 1) := by decide +kernel
theorem dL_law_1544 : decode cL_law 1544 = .ok (.iadd, 1) := by decide +kernel
theorem dL_law_1545 : decode cL_law 1545 = .ok (.iaload, 1) := by decide +kernel
theorem dL_law_1546 : decode cL_law 1546 = .ok (.aload_n 0, 1) := by decide +kernel
theorem dL_law_1547 : decode cL_law 1547 = .ok (.iload_n 3, 1) := by decide +kernel
theorem dL_law_1548 : decode cL_law 1548 = .ok (.iconst 2, 1) := by decide +kernel
theorem dL_law_1549 : decode cL_law 1549 = .ok (.iadd, 1) := by decide +kernel
theorem dL_law_1550 : decode cL_law 1550 = .ok (.iaload, 1) := by decide +kernel
theorem dL_law_1551 : decode cL_law 1551 = .ok (.aload_n 0, 1) := by decide +kernel
theorem dL_law_1552 : decode cL_law 1552 = .ok (.iload_n 3, 1) := by decide +kernel
theorem dL_law_1553 : decode cL_law 1553 = .ok (.iconst 3, 1) := by decide +kernel
theorem dL_law_1554 : decode cL_law 1554 = .ok (.iadd, 1) := by decide +kernel
theorem dL_law_1555 : decode cL_law 1555 = .ok (.iaload, 1) := by decide +kernel
theorem dL_law_1556 : decode cL_law 1556 = .ok (.invokevirtual 182, 3) := by decide +kernel
theorem dL_law_1559 : decode cL_law 1559 = .ok (.aload_n 2, 1) := by decide +kernel
theorem dL_law_1560 : decode cL_law 1560 = .ok (.aload_n 0, 1) := by decide +kernel
theorem dL_law_1561 : decode cL_law 1561 = .ok (.iload_n 3, 1) := by decide +kernel
theorem dL_law_1562 : decode cL_law 1562 = .ok (.iconst 1, 1) := by decide +kernel
theorem dL_law_1563 : decode cL_law 1563 = .ok (.iadd, 1) := by decide +kernel
theorem dL_law_1564 : decode cL_law 1564 = .ok (.iaload, 1) := by decide +kernel
theorem dL_law_1565 : decode cL_law 1565 = .ok (.aload_n 0, 1) := by decide +kernel
theorem dL_law_1566 : decode cL_law 1566 = .ok (.iload_n 3, 1) := by decide +kernel
theorem dL_law_1567 : decode cL_law 1567 = .ok (.iconst 2, 1) := by decide +kernel
theorem dL_law_1568 : decode cL_law 1568 = .ok (.iadd, 1) := by decide +kernel
theorem dL_law_1569 : decode cL_law 1569 = .ok (.iaload, 1) := by decide +kernel
theorem dL_law_1570 : decode cL_law 1570 = .ok (.aload_n 0, 1) := by decide +kernel
theorem dL_law_1571 : decode cL_law 1571 = .ok (.iload_n 3, 1) := by decide +kernel
theorem dL_law_1572 : decode cL_law 1572 = .ok (.iconst 3, 1) := by decide +kernel
theorem dL_law_1573 : decode cL_law 1573 = .ok (.iadd, 1) := by decide +kernel
theorem dL_law_1574 : decode cL_law 1574 = .ok (.iaload, 1) := by decide +kernel
theorem dL_law_1575 : decode cL_law 1575 = .ok (.invokevirtual 185, 3) := by decide +kernel
theorem dL_law_1578 : decode cL_law 1578 = .ok (.if_icmp .eq 226, 3) := by decide +kernel
theorem dL_law_1581 : decode cL_law 1581 = .ok (.iconst 0, 1) := by decide +kernel
theorem dL_law_1582 : decode cL_law 1582 = .ok (.ireturn, 1) := by decide +kernel
theorem dL_law_1583 : decode cL_law 1583 = .ok (.aload_n 1, 1) := by decide +kernel
theorem dL_law_1584 : decode cL_law 1584 = .ok (.aload_n 0, 1) := by decide +kernel
theorem dL_law_1585 : decode cL_law 1585 = .ok (.iload_n 3, 1) := by decide +kernel
theorem dL_law_1586 : decode cL_law 1586 = .ok (.iconst 1, 1) := by decide +kernel
theorem dL_law_1587 : decode cL_law 1587 = .ok (.iadd, 1) := by decide +kernel
theorem dL_law_1588 : decode cL_law 1588 = .ok (.iaload, 1) := by decide +kernel
theorem dL_law_1589 : decode cL_law 1589 = .ok (.aload_n 0, 1) := by decide +kernel
theorem dL_law_1590 : decode cL_law 1590 = .ok (.iload_n 3, 1) := by decide +kernel
theorem dL_law_1591 : decode cL_law 1591 = .ok (.iconst 2, 1) := by decide +kernel
theorem dL_law_1592 : decode cL_law 1592 = .ok (.iadd, 1) := by decide +kernel
theorem dL_law_1593 : decode cL_law 1593 = .ok (.iaload, 1) := by decide +kernel
theorem dL_law_1594 : decode cL_law 1594 = .ok (.aload_n 0, 1) := by decide +kernel
theorem dL_law_1595 : decode cL_law 1595 = .ok (.iload_n 3, 1) := by decide +kernel
theorem dL_law_1596 : decode cL_law 1596 = .ok (.iconst 3, 1) := by decide +kernel
theorem dL_law_1597 : decode cL_law 1597 = .ok (.iadd, 1) := by decide +kernel
theorem dL_law_1598 : decode cL_law 1598 = .ok (.iaload, 1) := by decide +kernel
theorem dL_law_1599 : decode cL_law 1599 = .ok (.aload_n 0, 1) := by decide +kernel
theorem dL_law_1600 : decode cL_law 1600 = .ok (.iload_n 3, 1) := by decide +kernel
theorem dL_law_1601 : decode cL_law 1601 = .ok (.iconst 4, 1) := by decide +kernel
theorem dL_law_1602 : decode cL_law 1602 = .ok (.iadd, 1) := by decide +kernel
theorem dL_law_1603 : decode cL_law 1603 = .ok (.iaload, 1) := by decide +kernel
theorem dL_law_1604 : decode cL_law 1604 = .ok (.invokevirtual 186, 3) := by decide +kernel
theorem dL_law_1607 : decode cL_law 1607 = .ok (.aload_n 2, 1) := by decide +kernel
theorem dL_law_1608 : decode cL_law 1608 = .ok (.aload_n 0, 1) := by decide +kernel
theorem dL_law_1609 : decode cL_law 1609 = .ok (.iload_n 3, 1) := by decide +kernel
theorem dL_law_1610 : decode cL_law 1610 = .ok (.iconst 1, 1) := by decide +kernel
theorem dL_law_1611 : decode cL_law 1611 = .ok (.iadd, 1) := by decide +kernel
theorem dL_law_1612 : decode cL_law 1612 = .ok (.iaload, 1) := by decide +kernel
theorem dL_law_1613 : decode cL_law 1613 = .ok (.aload_n 0, 1) := by decide +kernel
theorem dL_law_1614 : decode cL_law 1614 = .ok (.iload_n 3, 1) := by decide +kernel
theorem dL_law_1615 : decode cL_law 1615 = .ok (.iconst 2, 1) := by decide +kernel
theorem dL_law_1616 : decode cL_law 1616 = .ok (.iadd, 1) := by decide +kernel
theorem dL_law_1617 : decode cL_law 1617 = .ok (.iaload, 1) := by decide +kernel
theorem dL_law_1618 : decode cL_law 1618 = .ok (.aload_n 0, 1) := by decide +kernel
theorem dL_law_1619 : decode cL_law 1619 = .ok (.iload_n 3, 1) := by decide +kernel
theorem dL_law_1620 : decode cL_law 1620 = .ok (.iconst 3, 1) := by decide +kernel
theorem dL_law_1621 : decode cL_law 1621 = .ok (.iadd, 1) := by decide +kernel
theorem dL_law_1622 : decode cL_law 1622 = .ok (.iaload, 1) := by decide +kernel
theorem dL_law_1623 : decode cL_law 1623 = .ok (.aload_n 0, 1) := by decide +kernel
theorem dL_law_1624 : decode cL_law 1624 = .ok (.iload_n 3, 1) := by decide +kernel
theorem dL_law_1625 : decode cL_law 1625 = .ok (.iconst 4, 1) := by decide +kernel
theorem dL_law_1626 : decode cL_law 1626 = .ok (.iadd, 1) := by decide +kernel
theorem dL_law_1627 : decode cL_law 1627 = .ok (.iaload, 1) := by decide +kernel
theorem dL_law_1628 : decode cL_law 1628 = .ok (.invokevirtual 189, 3) := by decide +kernel
theorem dL_law_1631 : decode cL_law 1631 = .ok (.if_icmp .eq 173, 3) := by decide +kernel
theorem dL_law_1634 : decode cL_law 1634 = .ok (.iconst 0, 1) := by decide +kernel
theorem dL_law_1635 : decode cL_law 1635 = .ok (.ireturn, 1) := by decide +kernel
theorem dL_law_1636 : decode cL_law 1636 = .ok (.aload_n 1, 1) := by decide +kernel
theorem dL_law_1637 : decode cL_law 1637 = .ok (.aload_n 0, 1) := by decide +kernel
theorem dL_law_1638 : decode cL_law 1638 = .ok (.iload_n 3, 1) := by decide +kernel
theorem dL_law_1639 : decode cL_law 1639 = .ok (.iconst 1, 1) := by decide +kernel
theorem dL_law_1640 : decode cL_law 1640 = .ok (.iadd, 1) := by decide +kernel
theorem dL_law_1641 : decode cL_law 1641 = .ok (.iaload, 1) := by decide +kernel
theorem dL_law_1642 : decode cL_law 1642 = .ok (.aload_n 0, 1) := by decide +kernel
theorem dL_law_1643 : decode cL_law 1643 = .ok (.iload_n 3, 1) := by decide +kernel
theorem dL_law_1644 : decode cL_law 1644 = .ok (.iconst 2, 1) := by decide +kernel
theorem dL_law_1645 : decode cL_law 1645 = .ok (.iadd, 1) := by decide +kernel
theorem dL_law_1646 : decode cL_law 1646 = .ok (.iaload, 1) := by decide +kernel
theorem dL_law_1647 : decode cL_law 1647 = .ok (.aload_n 0, 1) := by decide +kernel
theorem dL_law_1648 : decode cL_law 1648 = .ok (.iload_n 3, 1) := by decide +kernel
theorem dL_law_1649 : decode cL_law 1649 = .ok (.iconst 3, 1) := by decide +kernel
theorem dL_law_1650 : decode cL_law 1650 = .ok (.iadd, 1) := by decide +kernel
theorem dL_law_1651 : decode cL_law 1651 = .ok (.iaload, 1) := by decide +kernel
theorem dL_law_1652 : decode cL_law 1652 = .ok (.invokevirtual 190, 3) := by decide +kernel
theorem dL_law_1655 : decode cL_law 1655 = .ok (.aload_n 2, 1) := by decide +kernel
theorem dL_law_1656 : decode cL_law 1656 = .ok (.aload_n 0, 1) := by decide +kernel
theorem dL_law_1657 : decode cL_law 1657 = .ok (.iload_n 3, 1) := by decide +kernel
theorem dL_law_1658 : decode cL_law 1658 = .ok (.iconst 1, 1) := by decide +kernel
theorem dL_law_1659 : decode cL_law 1659 = .ok (.iadd, 1) := by decide +kernel
theorem dL_law_1660 : decode cL_law 1660 = .ok (.iaload, 1) := by decide +kernel
theorem dL_law_1661 : decode cL_law 1661 = .ok (.aload_n 0, 1) := by decide +kernel
theorem dL_law_1662 : decode cL_law 1662 = .ok (.iload_n 3, 1) := by decide +kernel
theorem dL_law_1663 : decode cL_law 1663 = .ok (.iconst 2, 1) := by decide +kernel
theorem dL_law_1664 : decode cL_law 1664 = .ok (.iadd, 1) := by decide +kernel
theorem dL_law_1665 : decode cL_law 1665 = .ok (.iaload, 1) := by decide +kernel
theorem dL_law_1666 : decode cL_law 1666 = .ok (.aload_n 0, 1) := by decide +kernel
theorem dL_law_1667 : decode cL_law 1667 = .ok (.iload_n 3, 1) := by decide +kernel
theorem dL_law_1668 : decode cL_law 1668 = .ok (.iconst 3, 1) := by decide +kernel
theorem dL_law_1669 : decode cL_law 1669 = .ok (.iadd, 1) := by decide +kernel
theorem dL_law_1670 : decode cL_law 1670 = .ok (.iaload, 1) := by decide +kernel
theorem dL_law_1671 : decode cL_law 1671 = .ok (.invokevirtual 193, 3) := by decide +kernel
theorem dL_law_1674 : decode cL_law 1674 = .ok (.if_icmp .eq 130, 3) := by decide +kernel
theorem dL_law_1677 : decode cL_law 1677 = .ok (.iconst 0, 1) := by decide +kernel
theorem dL_law_1678 : decode cL_law 1678 = .ok (.ireturn, 1) := by decide +kernel
theorem dL_law_1679 : decode cL_law 1679 = .ok (.aload_n 1, 1) := by decide +kernel
theorem dL_law_1680 : decode cL_law 1680 = .ok (.aload_n 0, 1) := by decide +kernel
theorem dL_law_1681 : decode cL_law 1681 = .ok (.iload_n 3, 1) := by decide +kernel
theorem dL_law_1682 : decode cL_law 1682 = .ok (.iconst 1, 1) := by decide +kernel
theorem dL_law_1683 : decode cL_law 1683 = .ok (.iadd, 1) := by decide +kernel
theorem dL_law_1684 : decode cL_law 1684 = .ok (.iaload, 1) := by decide +kernel
theorem dL_law_1685 : decode cL_law 1685 = .ok (.invokevirtual 194, 3) := by decide +kernel
theorem dL_law_1688 : decode cL_law 1688 = .ok (.aload_n 2, 1) := by decide +kernel
theorem dL_law_1689 : decode cL_law 1689 = .ok (.aload_n 0, 1) := by decide +kernel
theorem dL_law_1690 : decode cL_law 1690 = .ok (.iload_n 3, 1) := by decide +kernel
theorem dL_law_1691 : decode cL_law 1691 = .ok (.iconst 1, 1) := by decide +kernel
theorem dL_law_1692 : decode cL_law 1692 = .ok (.iadd, 1) := by decide +kernel
theorem dL_law_1693 : decode cL_law 1693 = .ok (.iaload, 1) := by decide +kernel
theorem dL_law_1694 : decode cL_law 1694 = .ok (.invokevirtual 197, 3) := by decide +kernel
theorem dL_law_1697 : decode cL_law 1697 = .ok (.if_icmp .eq 107, 3) := by decide +kernel
theorem dL_law_1700 : decode cL_law 1700 = .ok (.iconst 0, 1) := by decide +kernel
theorem dL_law_1701 : decode cL_law 1701 = .ok (.ireturn, 1) := by decide +kernel
theorem dL_law_1702 : decode cL_law 1702 = .ok (.aload_n 1, 1) := by decide +kernel
theorem dL_law_1703 : decode cL_law 1703 = .ok (.invokevirtual 198, 3) := by decide +kernel
theorem dL_law_1706 : decode cL_law 1706 = .ok (.aload_n 2, 1) := by decide +kernel
theorem dL_law_1707 : decode cL_law 1707 = .ok (.invokevirtual 201, 3) := by decide +kernel
theorem dL_law_1710 : decode cL_law 1710 = .ok (.if_icmp .eq 94, 3) := by decide +kernel
theorem dL_law_1713 : decode cL_law 1713 = .ok (.iconst 0, 1) := by decide +kernel
theorem dL_law_1714 : decode cL_law 1714 = .ok (.ireturn, 1) := by decide +kernel
theorem dL_law_1715 : decode cL_law 1715 = .ok (.aload_n 1, 1) := by decide +kernel
theorem dL_law_1716 : decode cL_law 1716 = .ok (.aload_n 0, 1) := by decide +kernel
theorem dL_law_1717 : decode cL_law 1717 = .ok (.iload_n 3, 1) := by decide +kernel
theorem dL_law_1718 : decode cL_law 1718 = .ok (.iconst 1, 1) := by decide +kernel
theorem dL_law_1719 : decode cL_law 1719 = .ok (.iadd, 1) := by decide +kernel
theorem dL_law_1720 : decode cL_law 1720 = .ok (.iaload, 1) := by decide +kernel
theorem dL_law_1721 : decode cL_law 1721 = .ok (.aload_n 0, 1) := by decide +kernel
theorem dL_law_1722 : decode cL_law 1722 = .ok (.iload_n 3, 1) := by decide +kernel
theorem dL_law_1723 : decode cL_law 1723 = .ok (.iconst 2, 1) := by decide +kernel
theorem dL_law_1724 : decode cL_law 1724 = .ok (.iadd, 1) := by decide +kernel
theorem dL_law_1725 : decode cL_law 1725 = .ok (.iaload, 1) := by decide +kernel
theorem dL_law_1726 : decode cL_law 1726 = .ok (.invokevirtual 202, 3) := by decide +kernel
theorem dL_law_1729 : decode cL_law 1729 = .ok (.aload_n 2, 1) := by decide +kernel
theorem dL_law_1730 : decode cL_law 1730 = .ok (.aload_n 0, 1) := by decide +kernel
theorem dL_law_1731 : decode cL_law 1731 = .ok (.iload_n 3, 1) := by decide +kernel
theorem dL_law_1732 : decode cL_law 1732 = .ok (.iconst 1, 1) := by decide +kernel
theorem dL_law_1733 : decode cL_law 1733 = .ok (.iadd, 1) := by decide +kernel
theorem dL_law_1734 : decode cL_law 1734 = .ok (.iaload, 1) := by decide +kernel
theorem dL_law_1735 : decode cL_law 1735 = .ok (.aload_n 0, 1) := by decide +kernel
theorem dL_law_1736 : decode cL_law 1736 = .ok (.iload_n 3, 1) := by decide +kernel
theorem dL_law_1737 : decode cL_law 1737 = .ok (.iconst 2, 1) := by decide +kernel
theorem dL_law_1738 : decode cL_law 1738 = .ok (.iadd, 1) := by decide +kernel
theorem dL_law_1739 : decode cL_law 1739 = .ok (.iaload, 1) := by decide +kernel
theorem dL_law_1740 : decode cL_law 1740 = .ok (.invokevirtual 205, 3) := by decide +kernel
theorem dL_law_1743 : decode cL_law 1743 = .ok (.if_icmp .eq 61, 3) := by decide +kernel
theorem dL_law_1746 : decode cL_law 1746 = .ok (.iconst 0, 1) := by decide +kernel
theorem dL_law_1747 : decode cL_law 1747 = .ok (.ireturn, 1) := by decide +kernel
theorem dL_law_1748 : decode cL_law 1748 = .ok (.aload_n 1, 1) := by decide +kernel
theorem dL_law_1749 : decode cL_law 1749 = .ok (.aload_n 0, 1) := by decide +kernel
theorem dL_law_1750 : decode cL_law 1750 = .ok (.iload_n 3, 1) := by decide +kernel
theorem dL_law_1751 : decode cL_law 1751 = .ok (.iconst 1, 1) := by decide +kernel
theorem dL_law_1752 : decode cL_law 1752 = .ok (.iadd, 1) := by decide +kernel
theorem dL_law_1753 : decode cL_law 1753 = .ok (.iaload, 1) := by decide +kernel
theorem dL_law_1754 : decode cL_law 1754 = .ok (.aload_n 0, 1) := by decide +kernel
theorem dL_law_1755 : decode cL_law 1755 = .ok (.iload_n 3, 1) := by decide +kernel
theorem dL_law_1756 : decode cL_law 1756 = .ok (.iconst 2, 1) := by decide +kernel
theorem dL_law_1757 : decode cL_law 1757 = .ok (.iadd, 1) := by decide +kernel
theorem dL_law_1758 : decode cL_law 1758 = .ok (.iaload, 1) := by decide +kernel
theorem dL_law_1759 : decode cL_law 1759 = .ok (.invokevirtual 206, 3) := by decide +kernel
theorem dL_law_1762 : decode cL_law 1762 = .ok (.aload_n 2, 1) := by decide +kernel
theorem dL_law_1763 : decode cL_law 1763 = .ok (.aload_n 0, 1) := by decide +kernel
theorem dL_law_1764 : decode cL_law 1764 = .ok (.iload_n 3, 1) := by decide +kernel
theorem dL_law_1765 : decode cL_law 1765 = .ok (.iconst 1, 1) := by decide +kernel
theorem dL_law_1766 : decode cL_law 1766 = .ok (.iadd, 1) := by decide +kernel
theorem dL_law_1767 : decode cL_law 1767 = .ok (.iaload, 1) := by decide +kernel
theorem dL_law_1768 : decode cL_law 1768 = .ok (.aload_n 0, 1) := by decide +kernel
theorem dL_law_1769 : decode cL_law 1769 = .ok (.iload_n 3, 1) := by decide +kernel
theorem dL_law_1770 : decode cL_law 1770 = .ok (.iconst 2, 1) := by decide +kernel
theorem dL_law_1771 : decode cL_law 1771 = .ok (.iadd, 1) := by decide +kernel
theorem dL_law_1772 : decode cL_law 1772 = .ok (.iaload, 1) := by decide +kernel
theorem dL_law_1773 : decode cL_law 1773 = .ok (.invokevirtual 209, 3) := by decide +kernel
theorem dL_law_1776 : decode cL_law 1776 = .ok (.if_icmp .eq 28, 3) := by decide +kernel
theorem dL_law_1779 : decode cL_law 1779 = .ok (.iconst 0, 1) := by decide +kernel
theorem dL_law_1780 : decode cL_law 1780 = .ok (.ireturn, 1) := by decide +kernel
theorem dL_law_1781 : decode cL_law 1781 = .ok (.aload_n 1, 1) := by decide +kernel
theorem dL_law_1782 : decode cL_law 1782 = .ok (.aload_n 0, 1) := by decide +kernel
theorem dL_law_1783 : decode cL_law 1783 = .ok (.iload_n 3, 1) := by decide +kernel
theorem dL_law_1784 : decode cL_law 1784 = .ok (.iconst 1, 1) := by decide +kernel
theorem dL_law_1785 : decode cL_law 1785 = .ok (.iadd, 1) := by decide +kernel
theorem dL_law_1786 : decode cL_law 1786 = .ok (.iaload, 1) := by decide +kernel
theorem dL_law_1787 : decode cL_law 1787 = .ok (.invokevirtual 210, 3) := by decide +kernel
theorem dL_law_1790 : decode cL_law 1790 = .ok (.aload_n 2, 1) := by decide +kernel
theorem dL_law_1791 : decode cL_law 1791 = .ok (.aload_n 0, 1) := by decide +kernel
theorem dL_law_1792 : decode cL_law 1792 = .ok (.iload_n 3, 1) := by decide +kernel
theorem dL_law_1793 : decode cL_law 1793 = .ok (.iconst 1, 1) := by decide +kernel
theorem dL_law_1794 : decode cL_law 1794 = .ok (.iadd, 1) := by decide +kernel
theorem dL_law_1795 : decode cL_law 1795 = .ok (.iaload, 1) := by decide +kernel
theorem dL_law_1796 : decode cL_law 1796 = .ok (.invokevirtual 213, 3) := by decide +kernel
theorem dL_law_1799 : decode cL_law 1799 = .ok (.if_icmp .eq 5, 3) := by decide +kernel
theorem dL_law_1802 : decode cL_law 1802 = .ok (.iconst 0, 1) := by decide +kernel
theorem dL_law_1803 : decode cL_law 1803 = .ok (.ireturn, 1) := by decide +kernel
theorem dL_law_1804 : decode cL_law 1804 = .ok (.iinc 3 6, 3) := by decide +kernel
theorem dL_law_1807 : decode cL_law 1807 = .ok (.goto (-1789), 3) := by decide +kernel
theorem dL_law_1810 : decode cL_law 1810 = .ok (.iconst 1, 1) := by decide +kernel
theorem dL_law_1811 : decode cL_law 1811 = .ok (.ireturn, 1) := by decide +kernel
abbrev vwCl : List vw_C := [(RX0, TX0, 18), (RX1, TX1, 10), (RX2, TX2, 6), (RX3, TX3, 7), (RX4, TX4, 9), (RX5, TX5, 12), (RX6, TX6, 6), (RX7, TX7, 15), (RX8, TX8, 8), (RX9, TX9, 4), (RX10, TX10, 3), (RX11, TX11, 7), (RX12, TX12, 20), (RX13, TX13, 104)]
