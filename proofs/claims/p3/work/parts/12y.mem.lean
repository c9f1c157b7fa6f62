set_option maxRecDepth 100000 in
theorem m_509 : (.fieldLink RX0 21 "BookOfAll$Entry" "hand" "I" : Cond) ∈ jw := jin (jt_4 _ (List.mem_of_getElem? (i := 129) rfl)) rfl
set_option maxRecDepth 100000 in
theorem m_510 : (.fieldLink RX0 27 "BookOfAll$Entry" "kind" "I" : Cond) ∈ jw := jin (jt_4 _ (List.mem_of_getElem? (i := 107) rfl)) rfl
set_option maxRecDepth 100000 in
theorem m_511 : (.fieldLink RX0 36 "BookOfAll$Entry" "heading" "[B" : Cond) ∈ jw := jin (jt_4 _ (List.mem_of_getElem? (i := 109) rfl)) rfl
set_option maxRecDepth 100000 in
theorem m_512 : (.fieldLink RX0 51 "BookOfAll$Entry" "firstWord" "J" : Cond) ∈ jw := jin (jt_4 _ (List.mem_of_getElem? (i := 111) rfl)) rfl
set_option maxRecDepth 100000 in
theorem m_513 : (.fieldLink RX0 55 "BookOfAll$Entry" "secondWord" "I" : Cond) ∈ jw := jin (jt_4 _ (List.mem_of_getElem? (i := 113) rfl)) rfl
set_option maxRecDepth 100000 in
theorem m_514 : (.fieldLink RX0 60 "BookOfAll$Entry" "lineCount" "I" : Cond) ∈ jw := jin (jt_4 _ (List.mem_of_getElem? (i := 131) rfl)) rfl
set_option maxRecDepth 100000 in
theorem m_515 : (.fieldLink RX0 63 "BookOfAll$Entry" "asked" "I" : Cond) ∈ jw := jin (jt_4 _ (List.mem_of_getElem? (i := 119) rfl)) rfl
set_option maxRecDepth 100000 in
theorem m_516 : (.fieldLink RX0 66 "BookOfAll$Entry" "how" "I" : Cond) ∈ jw := jin (jt_4 _ (List.mem_of_getElem? (i := 123) rfl)) rfl
set_option maxRecDepth 100000 in
theorem m_517 : (.fieldLink RX1 11 "BookOfAll$Giver" "article" "[I" : Cond) ∈ jw := jin (jt_2 _ (List.mem_of_getElem? (i := 36) rfl)) rfl
set_option maxRecDepth 100000 in
theorem m_518 : (.fieldLink RX1 15 "BookOfAll$Giver" "lack" "[I" : Cond) ∈ jw := jin (jt_2 _ (List.mem_of_getElem? (i := 37) rfl)) rfl
set_option maxRecDepth 100000 in
theorem m_519 : (.fieldLink RX1 18 "BookOfAll$Giver" "chosen" "[I" : Cond) ∈ jw := jin (jt_2 _ (List.mem_of_getElem? (i := 38) rfl)) rfl
set_option maxRecDepth 100000 in
theorem m_520 : (.fieldLink RX1 21 "BookOfAll$Giver" "hand" "[I" : Cond) ∈ jw := jin (jt_2 _ (List.mem_of_getElem? (i := 40) rfl)) rfl
set_option maxRecDepth 100000 in
theorem m_521 : (.fieldLink RX1 24 "BookOfAll$Giver" "room" "[I" : Cond) ∈ jw := jin (jt_2 _ (List.mem_of_getElem? (i := 41) rfl)) rfl
set_option maxRecDepth 100000 in
theorem m_522 : (.fieldLink RX1 27 "BookOfAll$Giver" "takes" "[I" : Cond) ∈ jw := jin (jt_2 _ (List.mem_of_getElem? (i := 42) rfl)) rfl
set_option maxRecDepth 100000 in
theorem m_523 : (.fieldLink RX1 30 "BookOfAll$Giver" "sums" "[I" : Cond) ∈ jw := jin (jt_2 _ (List.mem_of_getElem? (i := 45) rfl)) rfl
set_option maxRecDepth 100000 in
theorem m_524 : (.fieldLink RX1 33 "BookOfAll$Giver" "reached" "[Z" : Cond) ∈ jw := jin (jt_2 _ (List.mem_of_getElem? (i := 46) rfl)) rfl
set_option maxRecDepth 100000 in
theorem m_525 : (.fieldLink RX1 37 "BookOfAll$Giver" "articleCount" "I" : Cond) ∈ jw := jin (jt_2 _ (List.mem_of_getElem? (i := 39) rfl)) rfl
set_option maxRecDepth 100000 in
theorem m_526 : (.fieldLink RX1 41 "BookOfAll$Giver" "handCount" "I" : Cond) ∈ jw := jin (jt_2 _ (List.mem_of_getElem? (i := 43) rfl)) rfl
set_option maxRecDepth 100000 in
theorem m_527 : (.fieldLink RX10 11 "BookOfAll$Thief" "row" "[I" : Cond) ∈ jw := jin (jt_2 _ (List.mem_of_getElem? (i := 74) rfl)) rfl
set_option maxRecDepth 100000 in
theorem m_528 : (.fieldLink RX10 15 "BookOfAll$Thief" "weight" "[I" : Cond) ∈ jw := jin (jt_2 _ (List.mem_of_getElem? (i := 77) rfl)) rfl
set_option maxRecDepth 100000 in
theorem m_529 : (.fieldLink RX10 18 "BookOfAll$Thief" "size" "I" : Cond) ∈ jw := jin (jt_2 _ (List.mem_of_getElem? (i := 75) rfl)) rfl
set_option maxRecDepth 100000 in
theorem m_530 : (.fieldLink RX11 19 "BookOfAll$Volume" "laid" "[I" : Cond) ∈ jw := jin (jt_1 _ (List.mem_of_getElem? (i := 165) rfl)) rfl
set_option maxRecDepth 100000 in
theorem m_531 : (.fieldLink RX11 31 "BookOfAll$Volume" "laidCount" "I" : Cond) ∈ jw := jin (jt_1 _ (List.mem_of_getElem? (i := 167) rfl)) rfl
set_option maxRecDepth 100000 in
theorem m_532 : (.fieldLink RX12 10 "BookOfAll" "reader" "LBookOfAll$Reader;" : Cond) ∈ jw := jin (jt_2 _ (List.mem_of_getElem? (i := 87) rfl)) rfl
set_option maxRecDepth 100000 in
theorem m_533 : (.fieldLink RX12 19 "BookOfAll" "rules" "LBookOfAll$Rules;" : Cond) ∈ jw := jin (jt_2 _ (List.mem_of_getElem? (i := 88) rfl)) rfl
set_option maxRecDepth 100000 in
theorem m_534 : (.fieldLink RX12 28 "BookOfAll" "order" "LBookOfAll$Order;" : Cond) ∈ jw := jin (jt_2 _ (List.mem_of_getElem? (i := 89) rfl)) rfl
set_option maxRecDepth 100000 in
theorem m_535 : (.fieldLink RX12 34 "BookOfAll" "volumes" "[LBookOfAll$Volume;" : Cond) ∈ jw := jin (jt_2 _ (List.mem_of_getElem? (i := 90) rfl)) rfl
set_option maxRecDepth 100000 in
theorem m_536 : (.fieldLink RX12 43 "BookOfAll" "entries" "[LBookOfAll$Entry;" : Cond) ∈ jw := jin (jt_2 _ (List.mem_of_getElem? (i := 91) rfl)) rfl
set_option maxRecDepth 100000 in
theorem m_537 : (.fieldLink RX12 47 "BookOfAll" "row" "[I" : Cond) ∈ jw := jin (jt_2 _ (List.mem_of_getElem? (i := 93) rfl)) rfl
set_option maxRecDepth 100000 in
theorem m_538 : (.fieldLink RX12 53 "BookOfAll" "hands" "[LBookOfAll$Hand;" : Cond) ∈ jw := jin (jt_2 _ (List.mem_of_getElem? (i := 95) rfl)) rfl
set_option maxRecDepth 100000 in
theorem m_539 : (.fieldLink RX12 59 "BookOfAll" "lines" "[LBookOfAll$Line;" : Cond) ∈ jw := jin (jt_2 _ (List.mem_of_getElem? (i := 97) rfl)) rfl
set_option maxRecDepth 100000 in
theorem m_540 : (.fieldLink RX12 66 "BookOfAll" "news" "LBookOfAll$News;" : Cond) ∈ jw := jin (jt_2 _ (List.mem_of_getElem? (i := 99) rfl)) rfl
set_option maxRecDepth 100000 in
theorem m_541 : (.fieldLink RX12 70 "BookOfAll" "firstVolume" "[I" : Cond) ∈ jw := jin (jt_2 _ (List.mem_of_getElem? (i := 100) rfl)) rfl
set_option maxRecDepth 100000 in
theorem m_542 : (.fieldLink RX12 73 "BookOfAll" "price" "[I" : Cond) ∈ jw := jin (jt_2 _ (List.mem_of_getElem? (i := 101) rfl)) rfl
set_option maxRecDepth 100000 in
theorem m_543 : (.fieldLink RX12 85 "BookOfAll" "fitting" "LBookOfAll$Lengths;" : Cond) ∈ jw := jin (jt_2 _ (List.mem_of_getElem? (i := 102) rfl)) rfl
set_option maxRecDepth 100000 in
theorem m_544 : (.fieldLink RX12 92 "BookOfAll" "giver" "LBookOfAll$Giver;" : Cond) ∈ jw := jin (jt_2 _ (List.mem_of_getElem? (i := 103) rfl)) rfl
set_option maxRecDepth 100000 in
theorem m_545 : (.fieldLink RX12 99 "BookOfAll" "robber" "LBookOfAll$Thief;" : Cond) ∈ jw := jin (jt_2 _ (List.mem_of_getElem? (i := 104) rfl)) rfl
set_option maxRecDepth 100000 in
theorem m_546 : (.fieldLink RX12 103 "BookOfAll$Reader" "size" "I" : Cond) ∈ jw := jin (jt_1 _ (List.mem_of_getElem? (i := 40) rfl)) rfl
set_option maxRecDepth 100000 in
theorem m_547 : (.fieldLink RX12 133 "BookOfAll" "now" "I" : Cond) ∈ jw := jin (jt_2 _ (List.mem_of_getElem? (i := 85) rfl)) rfl
set_option maxRecDepth 100000 in
theorem m_548 : (.fieldLink RX12 158 "BookOfAll" "setBits" "I" : Cond) ∈ jw := jin (jt_2 _ (List.mem_of_getElem? (i := 86) rfl)) rfl
set_option maxRecDepth 100000 in
theorem m_549 : (.fieldLink RX12 164 "BookOfAll$Volume" "lastLetter" "I" : Cond) ∈ jw := jin (jt_1 _ (List.mem_of_getElem? (i := 160) rfl)) rfl
set_option maxRecDepth 100000 in
theorem m_550 : (.fieldLink RX12 170 "BookOfAll$Volume" "setDay" "I" : Cond) ∈ jw := jin (jt_1 _ (List.mem_of_getElem? (i := 162) rfl)) rfl
set_option maxRecDepth 100000 in
theorem m_551 : (.fieldLink RX12 177 "BookOfAll$Entry" "k" "I" : Cond) ∈ jw := jin (jt_4 _ (List.mem_of_getElem? (i := 117) rfl)) rfl
set_option maxRecDepth 100000 in
theorem m_552 : (.fieldLink RX12 180 "BookOfAll$Entry" "field" "I" : Cond) ∈ jw := jin (jt_4 _ (List.mem_of_getElem? (i := 118) rfl)) rfl
set_option maxRecDepth 100000 in
theorem m_553 : (.fieldLink RX12 183 "BookOfAll$Entry" "asked" "I" : Cond) ∈ jw := jin (jt_4 _ (List.mem_of_getElem? (i := 120) rfl)) rfl
set_option maxRecDepth 100000 in
theorem m_554 : (.fieldLink RX12 186 "BookOfAll$Entry" "number" "I" : Cond) ∈ jw := jin (jt_4 _ (List.mem_of_getElem? (i := 106) rfl)) rfl
set_option maxRecDepth 100000 in
theorem m_555 : (.fieldLink RX12 193 "BookOfAll$Entry" "to" "I" : Cond) ∈ jw := jin (jt_4 _ (List.mem_of_getElem? (i := 122) rfl)) rfl
set_option maxRecDepth 100000 in
theorem m_556 : (.fieldLink RX12 203 "BookOfAll" "entryCount" "I" : Cond) ∈ jw := jin (jt_2 _ (List.mem_of_getElem? (i := 92) rfl)) rfl
set_option maxRecDepth 100000 in
theorem m_557 : (.fieldLink RX12 220 "BookOfAll$Entry" "keyVolume" "I" : Cond) ∈ jw := jin (jt_4 _ (List.mem_of_getElem? (i := 116) rfl)) rfl
set_option maxRecDepth 100000 in
theorem m_558 : (.fieldLink RX12 227 "BookOfAll$Entry" "keyStart" "I" : Cond) ∈ jw := jin (jt_4 _ (List.mem_of_getElem? (i := 115) rfl)) rfl
set_option maxRecDepth 100000 in
theorem m_559 : (.fieldLink RX12 236 "BookOfAll$Order" "numbersFirst" "Z" : Cond) ∈ jw := jin (jt_1 _ (List.mem_of_getElem? (i := 135) rfl)) rfl
set_option maxRecDepth 100000 in
theorem m_560 : (.fieldLink RX12 240 "BookOfAll$Entry" "kind" "I" : Cond) ∈ jw := jin (jt_4 _ (List.mem_of_getElem? (i := 108) rfl)) rfl
set_option maxRecDepth 100000 in
theorem m_561 : (.fieldLink RX12 247 "BookOfAll$Entry" "setWith" "I" : Cond) ∈ jw := jin (jt_4 _ (List.mem_of_getElem? (i := 126) rfl)) rfl
set_option maxRecDepth 100000 in
theorem m_562 : (.fieldLink RX12 253 "BookOfAll$Entry" "how" "I" : Cond) ∈ jw := jin (jt_4 _ (List.mem_of_getElem? (i := 124) rfl)) rfl
set_option maxRecDepth 100000 in
theorem m_563 : (.fieldLink RX12 263 "BookOfAll$Volume" "order" "[I" : Cond) ∈ jw := jin (jt_1 _ (List.mem_of_getElem? (i := 164) rfl)) rfl
set_option maxRecDepth 100000 in
theorem m_564 : (.fieldLink RX12 268 "BookOfAll" "rowSize" "I" : Cond) ∈ jw := jin (jt_2 _ (List.mem_of_getElem? (i := 94) rfl)) rfl
set_option maxRecDepth 100000 in
theorem m_565 : (.fieldLink RX12 292 "BookOfAll" "handCount" "I" : Cond) ∈ jw := jin (jt_2 _ (List.mem_of_getElem? (i := 96) rfl)) rfl
set_option maxRecDepth 100000 in
theorem m_566 : (.fieldLink RX12 300 "BookOfAll$Hand" "lives" "Z" : Cond) ∈ jw := jin (jt_5 _ (List.mem_of_getElem? (i := 32) rfl)) rfl
set_option maxRecDepth 100000 in
theorem m_567 : (.fieldLink RX12 303 "BookOfAll$Hand" "enemies" "I" : Cond) ∈ jw := jin (jt_5 _ (List.mem_of_getElem? (i := 33) rfl)) rfl
set_option maxRecDepth 100000 in
theorem m_568 : (.fieldLink RX12 313 "BookOfAll$Entry" "hand" "I" : Cond) ∈ jw := jin (jt_4 _ (List.mem_of_getElem? (i := 130) rfl)) rfl
set_option maxRecDepth 100000 in
theorem m_569 : (.fieldLink RX12 322 "BookOfAll$Hand" "fields" "I" : Cond) ∈ jw := jin (jt_5 _ (List.mem_of_getElem? (i := 26) rfl)) rfl
set_option maxRecDepth 100000 in
theorem m_570 : (.fieldLink RX12 325 "BookOfAll$Entry" "writers" "I" : Cond) ∈ jw := jin (jt_4 _ (List.mem_of_getElem? (i := 134) rfl)) rfl
set_option maxRecDepth 100000 in
theorem m_571 : (.fieldLink RX12 342 "BookOfAll$Entry" "lineCount" "I" : Cond) ∈ jw := jin (jt_4 _ (List.mem_of_getElem? (i := 132) rfl)) rfl
set_option maxRecDepth 100000 in
theorem m_572 : (.fieldLink RX12 345 "BookOfAll$Entry" "facts" "J" : Cond) ∈ jw := jin (jt_4 _ (List.mem_of_getElem? (i := 133) rfl)) rfl
set_option maxRecDepth 100000 in
theorem m_573 : (.fieldLink RX12 358 "BookOfAll$Hand" "skill" "I" : Cond) ∈ jw := jin (jt_5 _ (List.mem_of_getElem? (i := 28) rfl)) rfl
set_option maxRecDepth 100000 in
theorem m_574 : (.fieldLink RX12 361 "BookOfAll$Hand" "born" "I" : Cond) ∈ jw := jin (jt_5 _ (List.mem_of_getElem? (i := 30) rfl)) rfl
set_option maxRecDepth 100000 in
theorem m_575 : (.fieldLink RX12 370 "BookOfAll" "lineCount" "I" : Cond) ∈ jw := jin (jt_2 _ (List.mem_of_getElem? (i := 98) rfl)) rfl
set_option maxRecDepth 100000 in
theorem m_576 : (.fieldLink RX12 382 "BookOfAll$Line" "pay" "I" : Cond) ∈ jw := jin (jt_5 _ (List.mem_of_getElem? (i := 148) rfl)) rfl
set_option maxRecDepth 100000 in
theorem m_577 : (.fieldLink RX12 385 "BookOfAll$Line" "fact" "I" : Cond) ∈ jw := jin (jt_5 _ (List.mem_of_getElem? (i := 139) rfl)) rfl
set_option maxRecDepth 100000 in
theorem m_578 : (.fieldLink RX12 388 "BookOfAll$Hand" "pay" "I" : Cond) ∈ jw := jin (jt_5 _ (List.mem_of_getElem? (i := 34) rfl)) rfl
set_option maxRecDepth 100000 in
theorem m_579 : (.fieldLink RX12 396 "BookOfAll$Line" "root" "I" : Cond) ∈ jw := jin (jt_5 _ (List.mem_of_getElem? (i := 143) rfl)) rfl
set_option maxRecDepth 100000 in
theorem m_580 : (.fieldLink RX12 399 "BookOfAll$Line" "keeps" "I" : Cond) ∈ jw := jin (jt_5 _ (List.mem_of_getElem? (i := 145) rfl)) rfl
set_option maxRecDepth 100000 in
theorem m_581 : (.fieldLink RX12 402 "BookOfAll$Line" "leansOn" "I" : Cond) ∈ jw := jin (jt_5 _ (List.mem_of_getElem? (i := 141) rfl)) rfl
set_option maxRecDepth 100000 in
theorem m_582 : (.fieldLink RX12 422 "BookOfAll$Line" "entry" "I" : Cond) ∈ jw := jin (jt_5 _ (List.mem_of_getElem? (i := 133) rfl)) rfl
set_option maxRecDepth 100000 in
theorem m_583 : (.fieldLink RX12 436 "BookOfAll$Line" "place" "I" : Cond) ∈ jw := jin (jt_5 _ (List.mem_of_getElem? (i := 147) rfl)) rfl
set_option maxRecDepth 100000 in
theorem m_584 : (.fieldLink RX12 442 "BookOfAll$Line" "hand" "I" : Cond) ∈ jw := jin (jt_5 _ (List.mem_of_getElem? (i := 135) rfl)) rfl
set_option maxRecDepth 100000 in
theorem m_585 : (.fieldLink RX12 450 "BookOfAll$Volume" "lines" "I" : Cond) ∈ jw := jin (jt_1 _ (List.mem_of_getElem? (i := 169) rfl)) rfl
set_option maxRecDepth 100000 in
theorem m_586 : (.fieldLink RX12 465 "BookOfAll$Volume" "struck" "I" : Cond) ∈ jw := jin (jt_1 _ (List.mem_of_getElem? (i := 170) rfl)) rfl
set_option maxRecDepth 100000 in
theorem m_587 : (.fieldLink RX12 468 "BookOfAll$Entry" "begins" "I" : Cond) ∈ jw := jin (jt_4 _ (List.mem_of_getElem? (i := 128) rfl)) rfl
set_option maxRecDepth 100000 in
theorem m_588 : (.fieldLink RX12 518 "BookOfAll$Lengths" "fixed" "I" : Cond) ∈ jw := jin (jt_2 _ (List.mem_of_getElem? (i := 14) rfl)) rfl
set_option maxRecDepth 100000 in
theorem m_589 : (.fieldLink RX12 556 "BookOfAll$Giver" "handCount" "I" : Cond) ∈ jw := jin (jt_2 _ (List.mem_of_getElem? (i := 44) rfl)) rfl
set_option maxRecDepth 100000 in
theorem m_590 : (.fieldLink RX12 563 "BookOfAll$Volume" "laidCount" "I" : Cond) ∈ jw := jin (jt_1 _ (List.mem_of_getElem? (i := 168) rfl)) rfl
set_option maxRecDepth 100000 in
theorem m_591 : (.fieldLink RX12 569 "BookOfAll$Line" "term" "I" : Cond) ∈ jw := jin (jt_5 _ (List.mem_of_getElem? (i := 137) rfl)) rfl
set_option maxRecDepth 100000 in
theorem m_592 : (.fieldLink RX12 574 "BookOfAll$Thief" "size" "I" : Cond) ∈ jw := jin (jt_2 _ (List.mem_of_getElem? (i := 76) rfl)) rfl
set_option maxRecDepth 100000 in
theorem m_593 : (.fieldLink RX12 590 "BookOfAll$Rules" "sheetCount" "I" : Cond) ∈ jw := jin (jt_1 _ (List.mem_of_getElem? (i := 99) rfl)) rfl
set_option maxRecDepth 100000 in
theorem m_594 : (.fieldLink RX12 593 "BookOfAll$News" "errata" "I" : Cond) ∈ jw := jin (jt_1 _ (List.mem_of_getElem? (i := 213) rfl)) rfl
set_option maxRecDepth 100000 in
theorem m_595 : (.fieldLink RX3 9 "BookOfAll$Lengths" "article" "[I" : Cond) ∈ jw := jin (jt_2 _ (List.mem_of_getElem? (i := 7) rfl)) rfl
set_option maxRecDepth 100000 in
theorem m_596 : (.fieldLink RX3 15 "BookOfAll$Lengths" "asked" "[I" : Cond) ∈ jw := jin (jt_2 _ (List.mem_of_getElem? (i := 8) rfl)) rfl
set_option maxRecDepth 100000 in
theorem m_597 : (.fieldLink RX3 18 "BookOfAll$Lengths" "least" "[I" : Cond) ∈ jw := jin (jt_2 _ (List.mem_of_getElem? (i := 9) rfl)) rfl
set_option maxRecDepth 100000 in
theorem m_598 : (.fieldLink RX3 21 "BookOfAll$Lengths" "most" "[I" : Cond) ∈ jw := jin (jt_2 _ (List.mem_of_getElem? (i := 10) rfl)) rfl
set_option maxRecDepth 100000 in
theorem m_599 : (.fieldLink RX3 24 "BookOfAll$Lengths" "fitted" "[I" : Cond) ∈ jw := jin (jt_2 _ (List.mem_of_getElem? (i := 11) rfl)) rfl
set_option maxRecDepth 100000 in
theorem m_600 : (.fieldLink RX3 27 "BookOfAll$Lengths" "size" "I" : Cond) ∈ jw := jin (jt_2 _ (List.mem_of_getElem? (i := 12) rfl)) rfl
set_option maxRecDepth 100000 in
theorem m_601 : (.fieldLink RX3 31 "BookOfAll$Lengths" "fixed" "I" : Cond) ∈ jw := jin (jt_2 _ (List.mem_of_getElem? (i := 13) rfl)) rfl
set_option maxRecDepth 100000 in
theorem m_602 : (.fieldLink RX5 11 "BookOfAll$News" "latest" "[I" : Cond) ∈ jw := jin (jt_1 _ (List.mem_of_getElem? (i := 201) rfl)) rfl
set_option maxRecDepth 100000 in
theorem m_603 : (.fieldLink RX5 15 "BookOfAll$News" "value" "[I" : Cond) ∈ jw := jin (jt_1 _ (List.mem_of_getElem? (i := 202) rfl)) rfl
set_option maxRecDepth 100000 in
theorem m_604 : (.fieldLink RX5 18 "BookOfAll$News" "source" "[I" : Cond) ∈ jw := jin (jt_1 _ (List.mem_of_getElem? (i := 203) rfl)) rfl
set_option maxRecDepth 100000 in
theorem m_605 : (.fieldLink RX5 21 "BookOfAll$News" "day" "[I" : Cond) ∈ jw := jin (jt_1 _ (List.mem_of_getElem? (i := 204) rfl)) rfl
set_option maxRecDepth 100000 in
theorem m_606 : (.fieldLink RX5 24 "BookOfAll$News" "earlier" "[I" : Cond) ∈ jw := jin (jt_1 _ (List.mem_of_getElem? (i := 205) rfl)) rfl
set_option maxRecDepth 100000 in
theorem m_607 : (.fieldLink RX5 27 "BookOfAll$News" "wrongLine" "[I" : Cond) ∈ jw := jin (jt_1 _ (List.mem_of_getElem? (i := 207) rfl)) rfl
set_option maxRecDepth 100000 in
theorem m_608 : (.fieldLink RX5 30 "BookOfAll$News" "kept" "[I" : Cond) ∈ jw := jin (jt_1 _ (List.mem_of_getElem? (i := 208) rfl)) rfl
set_option maxRecDepth 100000 in
theorem m_609 : (.fieldLink RX5 33 "BookOfAll$News" "should" "[I" : Cond) ∈ jw := jin (jt_1 _ (List.mem_of_getElem? (i := 209) rfl)) rfl
set_option maxRecDepth 100000 in
theorem m_610 : (.fieldLink RX5 36 "BookOfAll$News" "erratumDay" "[I" : Cond) ∈ jw := jin (jt_1 _ (List.mem_of_getElem? (i := 210) rfl)) rfl
set_option maxRecDepth 100000 in
theorem m_611 : (.fieldLink RX5 39 "BookOfAll$News" "missed" "[Z" : Cond) ∈ jw := jin (jt_1 _ (List.mem_of_getElem? (i := 211) rfl)) rfl
set_option maxRecDepth 100000 in
theorem m_612 : (.fieldLink RX5 49 "BookOfAll$News" "tells" "I" : Cond) ∈ jw := jin (jt_1 _ (List.mem_of_getElem? (i := 206) rfl)) rfl
set_option maxRecDepth 100000 in
theorem m_613 : (.fieldLink RX5 57 "BookOfAll$News" "errata" "I" : Cond) ∈ jw := jin (jt_1 _ (List.mem_of_getElem? (i := 212) rfl)) rfl
set_option maxRecDepth 100000 in
theorem m_614 : (.fieldLink RX6 7 "BookOfAll$Order" "rules" "LBookOfAll$Rules;" : Cond) ∈ jw := jin (jt_1 _ (List.mem_of_getElem? (i := 129) rfl)) rfl
set_option maxRecDepth 100000 in
theorem m_615 : (.fieldLink RX6 13 "BookOfAll$Order" "volume" "I" : Cond) ∈ jw := jin (jt_1 _ (List.mem_of_getElem? (i := 130) rfl)) rfl
set_option maxRecDepth 100000 in
theorem m_616 : (.fieldLink RX6 17 "BookOfAll$Order" "day" "I" : Cond) ∈ jw := jin (jt_1 _ (List.mem_of_getElem? (i := 131) rfl)) rfl
set_option maxRecDepth 100000 in
theorem m_617 : (.fieldLink RX6 20 "BookOfAll$Order" "skips" "Z" : Cond) ∈ jw := jin (jt_1 _ (List.mem_of_getElem? (i := 132) rfl)) rfl
set_option maxRecDepth 100000 in
theorem m_618 : (.fieldLink RX6 32 "BookOfAll$Order" "blanksCount" "Z" : Cond) ∈ jw := jin (jt_1 _ (List.mem_of_getElem? (i := 133) rfl)) rfl
set_option maxRecDepth 100000 in
theorem m_619 : (.fieldLink RX6 35 "BookOfAll$Order" "numbersFirst" "Z" : Cond) ∈ jw := jin (jt_1 _ (List.mem_of_getElem? (i := 134) rfl)) rfl
set_option maxRecDepth 100000 in
theorem m_620 : (.fieldLink RX6 38 "BookOfAll$Entry" "secondWord" "I" : Cond) ∈ jw := jin (jt_4 _ (List.mem_of_getElem? (i := 112) rfl)) rfl
set_option maxRecDepth 100000 in
theorem m_621 : (.fieldLink RX6 43 "BookOfAll$Entry" "firstWord" "J" : Cond) ∈ jw := jin (jt_4 _ (List.mem_of_getElem? (i := 110) rfl)) rfl
set_option maxRecDepth 100000 in
theorem m_622 : (.fieldLink RX6 50 "BookOfAll$Entry" "keyStart" "I" : Cond) ∈ jw := jin (jt_4 _ (List.mem_of_getElem? (i := 114) rfl)) rfl
set_option maxRecDepth 100000 in
theorem m_623 : (.fieldLink RX6 57 "BookOfAll$Entry" "number" "I" : Cond) ∈ jw := jin (jt_4 _ (List.mem_of_getElem? (i := 105) rfl)) rfl
set_option maxRecDepth 100000 in
theorem m_624 : (.fieldLink RX7 11 "BookOfAll$Reader" "bytes" "[B" : Cond) ∈ jw := jin (jt_1 _ (List.mem_of_getElem? (i := 39) rfl)) rfl
set_option maxRecDepth 100000 in
theorem m_625 : (.fieldLink RX7 15 "BookOfAll$Reader" "kinds" "[I" : Cond) ∈ jw := jin (jt_1 _ (List.mem_of_getElem? (i := 42) rfl)) rfl
set_option maxRecDepth 100000 in
theorem m_626 : (.fieldLink RX7 19 "BookOfAll$Reader" "starts" "[I" : Cond) ∈ jw := jin (jt_1 _ (List.mem_of_getElem? (i := 43) rfl)) rfl
set_option maxRecDepth 100000 in
theorem m_627 : (.fieldLink RX7 22 "BookOfAll$Reader" "stops" "[I" : Cond) ∈ jw := jin (jt_1 _ (List.mem_of_getElem? (i := 44) rfl)) rfl
set_option maxRecDepth 100000 in
theorem m_628 : (.fieldLink RX7 25 "BookOfAll$Reader" "values" "[I" : Cond) ∈ jw := jin (jt_1 _ (List.mem_of_getElem? (i := 45) rfl)) rfl
set_option maxRecDepth 100000 in
theorem m_629 : (.fieldLink RX7 28 "BookOfAll$Reader" "code" "[I" : Cond) ∈ jw := jin (jt_1 _ (List.mem_of_getElem? (i := 49) rfl)) rfl
set_option maxRecDepth 100000 in
theorem m_630 : (.fieldLink RX7 33 "BookOfAll$Reader" "from" "[I" : Cond) ∈ jw := jin (jt_1 _ (List.mem_of_getElem? (i := 51) rfl)) rfl
set_option maxRecDepth 100000 in
theorem m_631 : (.fieldLink RX7 36 "BookOfAll$Reader" "to" "[I" : Cond) ∈ jw := jin (jt_1 _ (List.mem_of_getElem? (i := 52) rfl)) rfl
set_option maxRecDepth 100000 in
theorem m_632 : (.fieldLink RX7 39 "BookOfAll$Reader" "words" "[J" : Cond) ∈ jw := jin (jt_1 _ (List.mem_of_getElem? (i := 53) rfl)) rfl
set_option maxRecDepth 100000 in
theorem m_633 : (.fieldLink RX7 43 "BookOfAll$Reader" "size" "I" : Cond) ∈ jw := jin (jt_1 _ (List.mem_of_getElem? (i := 41) rfl)) rfl
set_option maxRecDepth 100000 in
theorem m_634 : (.fieldLink RX7 50 "BookOfAll$Reader" "fault" "I" : Cond) ∈ jw := jin (jt_1 _ (List.mem_of_getElem? (i := 48) rfl)) rfl
set_option maxRecDepth 100000 in
theorem m_635 : (.fieldLink RX7 53 "BookOfAll$Reader" "next" "I" : Cond) ∈ jw := jin (jt_1 _ (List.mem_of_getElem? (i := 47) rfl)) rfl
set_option maxRecDepth 100000 in
theorem m_636 : (.fieldLink RX7 56 "BookOfAll$Reader" "codeSize" "I" : Cond) ∈ jw := jin (jt_1 _ (List.mem_of_getElem? (i := 50) rfl)) rfl
set_option maxRecDepth 100000 in
theorem m_637 : (.fieldLink RX7 59 "BookOfAll$Reader" "wordCount" "I" : Cond) ∈ jw := jin (jt_1 _ (List.mem_of_getElem? (i := 54) rfl)) rfl
set_option maxRecDepth 100000 in
theorem m_638 : (.fieldLink RX7 106 "BookOfAll$Reader" "tokens" "I" : Cond) ∈ jw := jin (jt_1 _ (List.mem_of_getElem? (i := 46) rfl)) rfl
set_option maxRecDepth 100000 in
theorem m_639 : (.fieldLink RX8 13 "BookOfAll$Rules" "sheets" "[LBookOfAll$Sheet;" : Cond) ∈ jw := jin (jt_1 _ (List.mem_of_getElem? (i := 97) rfl)) rfl
set_option maxRecDepth 100000 in
theorem m_640 : (.fieldLink RX8 17 "BookOfAll$Rules" "putSheet" "[I" : Cond) ∈ jw := jin (jt_1 _ (List.mem_of_getElem? (i := 100) rfl)) rfl
set_option maxRecDepth 100000 in
theorem m_641 : (.fieldLink RX8 21 "BookOfAll$Rules" "putVolume" "[I" : Cond) ∈ jw := jin (jt_1 _ (List.mem_of_getElem? (i := 101) rfl)) rfl
set_option maxRecDepth 100000 in
theorem m_642 : (.fieldLink RX8 24 "BookOfAll$Rules" "putDay" "[I" : Cond) ∈ jw := jin (jt_1 _ (List.mem_of_getElem? (i := 102) rfl)) rfl
set_option maxRecDepth 100000 in
theorem m_643 : (.fieldLink RX8 27 "BookOfAll$Rules" "names" "[I" : Cond) ∈ jw := jin (jt_1 _ (List.mem_of_getElem? (i := 104) rfl)) rfl
set_option maxRecDepth 100000 in
theorem m_644 : (.fieldLink RX8 30 "BookOfAll$Rules" "stack" "[I" : Cond) ∈ jw := jin (jt_1 _ (List.mem_of_getElem? (i := 105) rfl)) rfl
set_option maxRecDepth 100000 in
theorem m_645 : (.fieldLink RX8 33 "BookOfAll$Rules" "sheetCount" "I" : Cond) ∈ jw := jin (jt_1 _ (List.mem_of_getElem? (i := 98) rfl)) rfl
set_option maxRecDepth 100000 in
theorem m_646 : (.fieldLink RX8 37 "BookOfAll$Rules" "puts" "I" : Cond) ∈ jw := jin (jt_1 _ (List.mem_of_getElem? (i := 103) rfl)) rfl
set_option maxRecDepth 100000 in
theorem m_647 : (.fieldLink RX8 69 "BookOfAll$Sheet" "to" "[I" : Cond) ∈ jw := jin (jt_3 _ (List.mem_of_getElem? (i := 172) rfl)) rfl
set_option maxRecDepth 100000 in
theorem m_648 : (.fieldLink RX8 72 "BookOfAll$Sheet" "from" "[I" : Cond) ∈ jw := jin (jt_3 _ (List.mem_of_getElem? (i := 170) rfl)) rfl
set_option maxRecDepth 100000 in
theorem m_649 : (.fieldLink RX8 75 "BookOfAll$Sheet" "code" "[I" : Cond) ∈ jw := jin (jt_3 _ (List.mem_of_getElem? (i := 167) rfl)) rfl
set_option maxRecDepth 100000 in
theorem m_650 : (.fieldLink RX9 11 "BookOfAll$Sheet" "from" "[I" : Cond) ∈ jw := jin (jt_3 _ (List.mem_of_getElem? (i := 168) rfl)) rfl
set_option maxRecDepth 100000 in
theorem m_651 : (.fieldLink RX9 15 "BookOfAll$Sheet" "words" "[J" : Cond) ∈ jw := jin (jt_3 _ (List.mem_of_getElem? (i := 173) rfl)) rfl
set_option maxRecDepth 100000 in
theorem m_652 : (.fieldLink RX12 458 "BookOfAll$Volume" "laid" "[I" : Cond) ∈ jw := jin (jt_1 _ (List.mem_of_getElem? (i := 166) rfl)) rfl
set_option maxRecDepth 100000 in
theorem m_653 : (.fieldLink RX7 86 "BookOfAll$Sheet" "code" "[I" : Cond) ∈ jw := jin (jt_3 _ (List.mem_of_getElem? (i := 166) rfl)) rfl
set_option maxRecDepth 100000 in
theorem m_654 : (.fieldLink RX7 92 "BookOfAll$Sheet" "from" "[I" : Cond) ∈ jw := jin (jt_3 _ (List.mem_of_getElem? (i := 169) rfl)) rfl
set_option maxRecDepth 100000 in
theorem m_655 : (.fieldLink RX7 93 "BookOfAll$Sheet" "to" "[I" : Cond) ∈ jw := jin (jt_3 _ (List.mem_of_getElem? (i := 171) rfl)) rfl
set_option maxRecDepth 100000 in
theorem m_656 : (.fieldLink RX7 97 "BookOfAll$Sheet" "words" "[J" : Cond) ∈ jw := jin (jt_3 _ (List.mem_of_getElem? (i := 174) rfl)) rfl
