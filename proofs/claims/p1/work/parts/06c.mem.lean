set_option maxRecDepth 100000 in
theorem m_500 : (.fieldLink RX13 361 "BookOfAllModel" "skips" "I" : Cond) ∈ jw := jin (jt_7 _ (List.mem_of_getElem? (i := 70) rfl)) rfl
set_option maxRecDepth 100000 in
theorem m_501 : (.fieldLink RX13 275 "BookOfAllModel" "tokenAt" "I" : Cond) ∈ jw := jin (jt_7 _ (List.mem_of_getElem? (i := 59) rfl)) rfl
set_option maxRecDepth 100000 in
theorem m_502 : (.fieldLink RX13 278 "BookOfAllModel" "tokenValue" "I" : Cond) ∈ jw := jin (jt_7 _ (List.mem_of_getElem? (i := 60) rfl)) rfl
set_option maxRecDepth 100000 in
theorem m_503 : (.fieldLink RX13 281 "BookOfAllModel" "token" "I" : Cond) ∈ jw := jin (jt_7 _ (List.mem_of_getElem? (i := 58) rfl)) rfl
set_option maxRecDepth 100000 in
theorem m_504 : (.methodLink RX13 301 yX13_next : Cond) ∈ jw := jin (jt_8 _ (List.mem_of_getElem? (i := 147) rfl)) rfl
set_option maxRecDepth 100000 in
theorem m_505 : (.instanceMethod yX13_next : Cond) ∈ jw := jin (jt_8 _ (List.mem_of_getElem? (i := 149) rfl)) rfl
set_option maxRecDepth 100000 in
theorem m_506 : (.selects RX13 yX13_next yX13_next : Cond) ∈ jw := jin (jt_p _ (List.mem_of_getElem? (i := 88) rfl)) rfl
set_option maxRecDepth 100000 in
theorem m_507 : (.code yX13_next cX13_next 2 none : Cond) ∈ jw := jin (jt_8 _ (List.mem_of_getElem? (i := 150) rfl)) rfl
set_option maxRecDepth 100000 in
theorem m_508 : (.methodLink RX13 307 yX13_push : Cond) ∈ jw := jin (jt_8 _ (List.mem_of_getElem? (i := 165) rfl)) rfl
set_option maxRecDepth 100000 in
theorem m_509 : (.instanceMethod yX13_push : Cond) ∈ jw := jin (jt_8 _ (List.mem_of_getElem? (i := 167) rfl)) rfl
set_option maxRecDepth 100000 in
theorem m_510 : (.selects RX13 yX13_push yX13_push : Cond) ∈ jw := jin (jt_p _ (List.mem_of_getElem? (i := 90) rfl)) rfl
set_option maxRecDepth 100000 in
theorem m_511 : (.code yX13_push cX13_push 2 none : Cond) ∈ jw := jin (jt_8 _ (List.mem_of_getElem? (i := 168) rfl)) rfl
set_option maxRecDepth 100000 in
theorem m_512 : (.methodLink RX13 322 yX13_clauses : Cond) ∈ jw := jin (jt_8 _ (List.mem_of_getElem? (i := 185) rfl)) rfl
set_option maxRecDepth 100000 in
theorem m_513 : (.instanceMethod yX13_clauses : Cond) ∈ jw := jin (jt_8 _ (List.mem_of_getElem? (i := 187) rfl)) rfl
set_option maxRecDepth 100000 in
theorem m_514 : (.selects RX13 yX13_clauses yX13_clauses : Cond) ∈ jw := jin (jt_p _ (List.mem_of_getElem? (i := 95) rfl)) rfl
set_option maxRecDepth 100000 in
theorem m_515 : (.code yX13_clauses cX13_clauses 2 (some .boolean) : Cond) ∈ jw := jin (jt_8 _ (List.mem_of_getElem? (i := 188) rfl)) rfl
set_option maxRecDepth 100000 in
theorem m_516 : (.methodLink RX13 368 yX13_steps : Cond) ∈ jw := jin (jt_8 _ (List.mem_of_getElem? (i := 169) rfl)) rfl
set_option maxRecDepth 100000 in
theorem m_517 : (.instanceMethod yX13_steps : Cond) ∈ jw := jin (jt_8 _ (List.mem_of_getElem? (i := 171) rfl)) rfl
set_option maxRecDepth 100000 in
theorem m_518 : (.selects RX13 yX13_steps yX13_steps : Cond) ∈ jw := jin (jt_p _ (List.mem_of_getElem? (i := 91) rfl)) rfl
set_option maxRecDepth 100000 in
theorem m_519 : (.code yX13_steps cX13_steps 2 (some .boolean) : Cond) ∈ jw := jin (jt_8 _ (List.mem_of_getElem? (i := 172) rfl)) rfl
set_option maxRecDepth 100000 in
theorem m_520 : (.methodLink RX13 371 yX13_reads : Cond) ∈ jw := jin (jt_8 _ (List.mem_of_getElem? (i := 143) rfl)) rfl
set_option maxRecDepth 100000 in
theorem m_521 : (.instanceMethod yX13_reads : Cond) ∈ jw := jin (jt_8 _ (List.mem_of_getElem? (i := 145) rfl)) rfl
set_option maxRecDepth 100000 in
theorem m_522 : (.selects RX13 yX13_reads yX13_reads : Cond) ∈ jw := jin (jt_p _ (List.mem_of_getElem? (i := 87) rfl)) rfl
set_option maxRecDepth 100000 in
theorem m_523 : (.code yX13_reads cX13_reads 2 (some .int) : Cond) ∈ jw := jin (jt_8 _ (List.mem_of_getElem? (i := 146) rfl)) rfl
set_option maxRecDepth 100000 in
theorem m_524 : (.fieldLink RX13 374 "BookOfAllModel" "sheets" "I" : Cond) ∈ jw := jin (jt_7 _ (List.mem_of_getElem? (i := 73) rfl)) rfl
set_option maxRecDepth 100000 in
theorem m_525 : (.fieldLink RX13 383 "BookOfAllModel" "now" "I" : Cond) ∈ jw := jin (jt_7 _ (List.mem_of_getElem? (i := 85) rfl)) rfl
set_option maxRecDepth 100000 in
theorem m_526 : (.fieldLink RX13 380 "BookOfAllModel" "forced" "I" : Cond) ∈ jw := jin (jt_7 _ (List.mem_of_getElem? (i := 81) rfl)) rfl
set_option maxRecDepth 100000 in
theorem m_527 : (.methodLink RX13 386 yX13_inForce : Cond) ∈ jw := jin (jt_9 _ (List.mem_of_getElem? (i := 9) rfl)) rfl
set_option maxRecDepth 100000 in
theorem m_528 : (.instanceMethod yX13_inForce : Cond) ∈ jw := jin (jt_9 _ (List.mem_of_getElem? (i := 11) rfl)) rfl
set_option maxRecDepth 100000 in
theorem m_529 : (.selects RX13 yX13_inForce yX13_inForce : Cond) ∈ jw := jin (jt_p _ (List.mem_of_getElem? (i := 107) rfl)) rfl
set_option maxRecDepth 100000 in
theorem m_530 : (.code yX13_inForce cX13_inForce 5 (some .int) : Cond) ∈ jw := jin (jt_9 _ (List.mem_of_getElem? (i := 12) rfl)) rfl
set_option maxRecDepth 100000 in
theorem m_531 : (.methodLink RX13 424 yX13_headingOf : Cond) ∈ jw := jin (jt_9 _ (List.mem_of_getElem? (i := 25) rfl)) rfl
set_option maxRecDepth 100000 in
theorem m_532 : (.instanceMethod yX13_headingOf : Cond) ∈ jw := jin (jt_9 _ (List.mem_of_getElem? (i := 27) rfl)) rfl
set_option maxRecDepth 100000 in
theorem m_533 : (.selects RX13 yX13_headingOf yX13_headingOf : Cond) ∈ jw := jin (jt_p _ (List.mem_of_getElem? (i := 108) rfl)) rfl
set_option maxRecDepth 100000 in
theorem m_534 : (.code yX13_headingOf cX13_headingOf 9 (some .int) : Cond) ∈ jw := jin (jt_9 _ (List.mem_of_getElem? (i := 28) rfl)) rfl
set_option maxRecDepth 100000 in
theorem m_535 : (.fieldLink RX13 418 "BookOfAllModel" "entries" "I" : Cond) ∈ jw := jin (jt_7 _ (List.mem_of_getElem? (i := 92) rfl)) rfl
set_option maxRecDepth 100000 in
theorem m_536 : (.methodLink RX13 427 yX13_newEntry : Cond) ∈ jw := jin (jt_9 _ (List.mem_of_getElem? (i := 29) rfl)) rfl
set_option maxRecDepth 100000 in
theorem m_537 : (.instanceMethod yX13_newEntry : Cond) ∈ jw := jin (jt_9 _ (List.mem_of_getElem? (i := 31) rfl)) rfl
set_option maxRecDepth 100000 in
theorem m_538 : (.selects RX13 yX13_newEntry yX13_newEntry : Cond) ∈ jw := jin (jt_p _ (List.mem_of_getElem? (i := 109) rfl)) rfl
set_option maxRecDepth 100000 in
theorem m_539 : (.code yX13_newEntry cX13_newEntry 4 (some .int) : Cond) ∈ jw := jin (jt_9 _ (List.mem_of_getElem? (i := 32) rfl)) rfl
set_option maxRecDepth 100000 in
theorem m_540 : (.methodLink RX13 421 yX13_isEntry : Cond) ∈ jw := jin (jt_9 _ (List.mem_of_getElem? (i := 37) rfl)) rfl
set_option maxRecDepth 100000 in
theorem m_541 : (.instanceMethod yX13_isEntry : Cond) ∈ jw := jin (jt_9 _ (List.mem_of_getElem? (i := 39) rfl)) rfl
set_option maxRecDepth 100000 in
theorem m_542 : (.selects RX13 yX13_isEntry yX13_isEntry : Cond) ∈ jw := jin (jt_p _ (List.mem_of_getElem? (i := 110) rfl)) rfl
set_option maxRecDepth 100000 in
theorem m_543 : (.code yX13_isEntry cX13_isEntry 2 (some .boolean) : Cond) ∈ jw := jin (jt_9 _ (List.mem_of_getElem? (i := 40) rfl)) rfl
set_option maxRecDepth 100000 in
theorem m_544 : (.methodLink RX13 436 yX13_canGo : Cond) ∈ jw := jin (jt_9 _ (List.mem_of_getElem? (i := 93) rfl)) rfl
set_option maxRecDepth 100000 in
theorem m_545 : (.instanceMethod yX13_canGo : Cond) ∈ jw := jin (jt_9 _ (List.mem_of_getElem? (i := 95) rfl)) rfl
set_option maxRecDepth 100000 in
theorem m_546 : (.selects RX13 yX13_canGo yX13_canGo : Cond) ∈ jw := jin (jt_p _ (List.mem_of_getElem? (i := 117) rfl)) rfl
set_option maxRecDepth 100000 in
theorem m_547 : (.code yX13_canGo cX13_canGo 2 (some .boolean) : Cond) ∈ jw := jin (jt_9 _ (List.mem_of_getElem? (i := 96) rfl)) rfl
set_option maxRecDepth 100000 in
theorem m_548 : (.methodLink RX13 377 yX13_isVolume : Cond) ∈ jw := jin (jt_9 _ (List.mem_of_getElem? (i := 2) rfl)) rfl
set_option maxRecDepth 100000 in
theorem m_549 : (.static yX13_isVolume : Cond) ∈ jw := jin (jt_9 _ (List.mem_of_getElem? (i := 3) rfl)) rfl
set_option maxRecDepth 100000 in
theorem m_550 : (.code yX13_isVolume cX13_isVolume 1 (some .boolean) : Cond) ∈ jw := jin (jt_9 _ (List.mem_of_getElem? (i := 4) rfl)) rfl
set_option maxRecDepth 100000 in
theorem m_551 : (.methodLink RX13 442 yX13_orders : Cond) ∈ jw := jin (jt_9 _ (List.mem_of_getElem? (i := 105) rfl)) rfl
set_option maxRecDepth 100000 in
theorem m_552 : (.instanceMethod yX13_orders : Cond) ∈ jw := jin (jt_9 _ (List.mem_of_getElem? (i := 107) rfl)) rfl
set_option maxRecDepth 100000 in
theorem m_553 : (.selects RX13 yX13_orders yX13_orders : Cond) ∈ jw := jin (jt_p _ (List.mem_of_getElem? (i := 118) rfl)) rfl
set_option maxRecDepth 100000 in
theorem m_554 : (.code yX13_orders cX13_orders 5 (some .int) : Cond) ∈ jw := jin (jt_9 _ (List.mem_of_getElem? (i := 108) rfl)) rfl
set_option maxRecDepth 100000 in
theorem m_555 : (.constant RX13 448 (-40000) : Cond) ∈ jw := jin (jt_9 _ (List.mem_of_getElem? (i := 125) rfl)) rfl
set_option maxRecDepth 100000 in
theorem m_556 : (.fieldLink RX13 445 "BookOfAllModel" "hands" "I" : Cond) ∈ jw := jin (jt_7 _ (List.mem_of_getElem? (i := 105) rfl)) rfl
set_option maxRecDepth 100000 in
theorem m_557 : (.methodLink RX13 449 yX13_isHand : Cond) ∈ jw := jin (jt_9 _ (List.mem_of_getElem? (i := 130) rfl)) rfl
set_option maxRecDepth 100000 in
theorem m_558 : (.instanceMethod yX13_isHand : Cond) ∈ jw := jin (jt_9 _ (List.mem_of_getElem? (i := 132) rfl)) rfl
set_option maxRecDepth 100000 in
theorem m_559 : (.selects RX13 yX13_isHand yX13_isHand : Cond) ∈ jw := jin (jt_p _ (List.mem_of_getElem? (i := 121) rfl)) rfl
set_option maxRecDepth 100000 in
theorem m_560 : (.code yX13_isHand cX13_isHand 2 (some .boolean) : Cond) ∈ jw := jin (jt_9 _ (List.mem_of_getElem? (i := 133) rfl)) rfl
set_option maxRecDepth 100000 in
theorem m_561 : (.methodLink RX13 467 yX13_isArticle : Cond) ∈ jw := jin (jt_9 _ (List.mem_of_getElem? (i := 142) rfl)) rfl
set_option maxRecDepth 100000 in
theorem m_562 : (.instanceMethod yX13_isArticle : Cond) ∈ jw := jin (jt_9 _ (List.mem_of_getElem? (i := 144) rfl)) rfl
set_option maxRecDepth 100000 in
theorem m_563 : (.selects RX13 yX13_isArticle yX13_isArticle : Cond) ∈ jw := jin (jt_p _ (List.mem_of_getElem? (i := 123) rfl)) rfl
set_option maxRecDepth 100000 in
theorem m_564 : (.code yX13_isArticle cX13_isArticle 2 (some .boolean) : Cond) ∈ jw := jin (jt_9 _ (List.mem_of_getElem? (i := 145) rfl)) rfl
set_option maxRecDepth 100000 in
theorem m_565 : (.methodLink RX13 473 yX13_mayBeGiven : Cond) ∈ jw := jin (jt_9 _ (List.mem_of_getElem? (i := 138) rfl)) rfl
set_option maxRecDepth 100000 in
theorem m_566 : (.instanceMethod yX13_mayBeGiven : Cond) ∈ jw := jin (jt_9 _ (List.mem_of_getElem? (i := 140) rfl)) rfl
set_option maxRecDepth 100000 in
theorem m_567 : (.selects RX13 yX13_mayBeGiven yX13_mayBeGiven : Cond) ∈ jw := jin (jt_p _ (List.mem_of_getElem? (i := 122) rfl)) rfl
set_option maxRecDepth 100000 in
theorem m_568 : (.code yX13_mayBeGiven cX13_mayBeGiven 4 (some .boolean) : Cond) ∈ jw := jin (jt_9 _ (List.mem_of_getElem? (i := 141) rfl)) rfl
set_option maxRecDepth 100000 in
theorem m_569 : (.fieldLink RX13 476 "BookOfAllModel" "told" "I" : Cond) ∈ jw := jin (jt_7 _ (List.mem_of_getElem? (i := 121) rfl)) rfl
set_option maxRecDepth 100000 in
theorem m_570 : (.methodLink RX13 479 yX13_knownOf : Cond) ∈ jw := jin (jt_9 _ (List.mem_of_getElem? (i := 174) rfl)) rfl
set_option maxRecDepth 100000 in
theorem m_571 : (.instanceMethod yX13_knownOf : Cond) ∈ jw := jin (jt_9 _ (List.mem_of_getElem? (i := 176) rfl)) rfl
set_option maxRecDepth 100000 in
theorem m_572 : (.selects RX13 yX13_knownOf yX13_knownOf : Cond) ∈ jw := jin (jt_p _ (List.mem_of_getElem? (i := 130) rfl)) rfl
set_option maxRecDepth 100000 in
theorem m_573 : (.code yX13_knownOf cX13_knownOf 4 (some .int) : Cond) ∈ jw := jin (jt_9 _ (List.mem_of_getElem? (i := 177) rfl)) rfl
set_option maxRecDepth 100000 in
theorem m_574 : (.fieldLink RX13 452 "BookOfAllModel" "lines" "I" : Cond) ∈ jw := jin (jt_7 _ (List.mem_of_getElem? (i := 111) rfl)) rfl
set_option maxRecDepth 100000 in
theorem m_575 : (.methodLink RX13 497 yX13_isLine : Cond) ∈ jw := jin (jt_9 _ (List.mem_of_getElem? (i := 202) rfl)) rfl
set_option maxRecDepth 100000 in
theorem m_576 : (.instanceMethod yX13_isLine : Cond) ∈ jw := jin (jt_9 _ (List.mem_of_getElem? (i := 204) rfl)) rfl
set_option maxRecDepth 100000 in
theorem m_577 : (.selects RX13 yX13_isLine yX13_isLine : Cond) ∈ jw := jin (jt_p _ (List.mem_of_getElem? (i := 132) rfl)) rfl
set_option maxRecDepth 100000 in
theorem m_578 : (.code yX13_isLine cX13_isLine 2 (some .boolean) : Cond) ∈ jw := jin (jt_9 _ (List.mem_of_getElem? (i := 205) rfl)) rfl
set_option maxRecDepth 100000 in
theorem m_579 : (.fieldLink RX13 488 "BookOfAllModel" "errata" "I" : Cond) ∈ jw := jin (jt_7 _ (List.mem_of_getElem? (i := 126) rfl)) rfl
set_option maxRecDepth 100000 in
theorem m_580 : (.methodLink RX13 506 yX13_canBeSet : Cond) ∈ jw := jin (jt_10 _ (List.mem_of_getElem? (i := 2) rfl)) rfl
set_option maxRecDepth 100000 in
theorem m_581 : (.instanceMethod yX13_canBeSet : Cond) ∈ jw := jin (jt_10 _ (List.mem_of_getElem? (i := 4) rfl)) rfl
set_option maxRecDepth 100000 in
theorem m_582 : (.selects RX13 yX13_canBeSet yX13_canBeSet : Cond) ∈ jw := jin (jt_p _ (List.mem_of_getElem? (i := 136) rfl)) rfl
set_option maxRecDepth 100000 in
theorem m_583 : (.code yX13_canBeSet cX13_canBeSet 5 (some .boolean) : Cond) ∈ jw := jin (jt_10 _ (List.mem_of_getElem? (i := 5) rfl)) rfl
set_option maxRecDepth 100000 in
theorem m_584 : (.fieldLink RX13 515 "BookOfAllModel" "differs" "I" : Cond) ∈ jw := jin (jt_7 _ (List.mem_of_getElem? (i := 145) rfl)) rfl
set_option maxRecDepth 100000 in
theorem m_585 : (.methodLink RX13 521 yX13_bringsTo : Cond) ∈ jw := jin (jt_10 _ (List.mem_of_getElem? (i := 42) rfl)) rfl
set_option maxRecDepth 100000 in
theorem m_586 : (.instanceMethod yX13_bringsTo : Cond) ∈ jw := jin (jt_10 _ (List.mem_of_getElem? (i := 44) rfl)) rfl
set_option maxRecDepth 100000 in
theorem m_587 : (.selects RX13 yX13_bringsTo yX13_bringsTo : Cond) ∈ jw := jin (jt_p _ (List.mem_of_getElem? (i := 139) rfl)) rfl
set_option maxRecDepth 100000 in
theorem m_588 : (.code yX13_bringsTo cX13_bringsTo 13 (some .int) : Cond) ∈ jw := jin (jt_10 _ (List.mem_of_getElem? (i := 45) rfl)) rfl
set_option maxRecDepth 100000 in
theorem m_589 : (.constant RX13 524 1073741824 : Cond) ∈ jw := jin (jt_10 _ (List.mem_of_getElem? (i := 61) rfl)) rfl
set_option maxRecDepth 100000 in
theorem m_590 : (.methodLink RX13 543 yX13_gives : Cond) ∈ jw := jin (jt_10 _ (List.mem_of_getElem? (i := 57) rfl)) rfl
set_option maxRecDepth 100000 in
theorem m_591 : (.instanceMethod yX13_gives : Cond) ∈ jw := jin (jt_10 _ (List.mem_of_getElem? (i := 59) rfl)) rfl
set_option maxRecDepth 100000 in
theorem m_592 : (.selects RX13 yX13_gives yX13_gives : Cond) ∈ jw := jin (jt_p _ (List.mem_of_getElem? (i := 140) rfl)) rfl
set_option maxRecDepth 100000 in
theorem m_593 : (.code yX13_gives cX13_gives 7 (some .boolean) : Cond) ∈ jw := jin (jt_10 _ (List.mem_of_getElem? (i := 60) rfl)) rfl
set_option maxRecDepth 100000 in
theorem m_594 : (.fieldLink RX13 546 "BookOfAllModel" "stolen" "I" : Cond) ∈ jw := jin (jt_7 _ (List.mem_of_getElem? (i := 133) rfl)) rfl
set_option maxRecDepth 100000 in
theorem m_595 : (.methodLink RX12 1 objectInit : Cond) ∈ jw := jin (jt_1 _ (List.mem_of_getElem? (i := 30) rfl)) rfl
set_option maxRecDepth 100000 in
theorem m_596 : (.classLink RX12 7 RX7 : Cond) ∈ jw := jin (jt_1 _ (List.mem_of_getElem? (i := 33) rfl)) rfl
set_option maxRecDepth 100000 in
theorem m_597 : (.instantiable RX7 15 : Cond) ∈ jw := jin (jt_1 _ (List.mem_of_getElem? (i := 34) rfl)) rfl
set_option maxRecDepth 100000 in
theorem m_598 : (.methodLink RX7 3 objectInit : Cond) ∈ jw := jin (jt_1 _ (List.mem_of_getElem? (i := 38) rfl)) rfl
set_option maxRecDepth 100000 in
theorem m_599 : (.code yX7_init cX7_init 1 none : Cond) ∈ jw := jin (jt_1 _ (List.mem_of_getElem? (i := 37) rfl)) rfl
set_option maxRecDepth 100000 in
theorem m_600 : (.instanceMethod yX7_init : Cond) ∈ jw := jin (jt_1 _ (List.mem_of_getElem? (i := 36) rfl)) rfl
set_option maxRecDepth 100000 in
theorem m_601 : (.classLink RX12 16 RX8 : Cond) ∈ jw := jin (jt_1 _ (List.mem_of_getElem? (i := 89) rfl)) rfl
set_option maxRecDepth 100000 in
theorem m_602 : (.instantiable RX8 8 : Cond) ∈ jw := jin (jt_1 _ (List.mem_of_getElem? (i := 90) rfl)) rfl
set_option maxRecDepth 100000 in
theorem m_603 : (.methodLink RX8 3 objectInit : Cond) ∈ jw := jin (jt_1 _ (List.mem_of_getElem? (i := 94) rfl)) rfl
set_option maxRecDepth 100000 in
theorem m_604 : (.classLink RX8 11 RX9 : Cond) ∈ jw := jin (jt_1 _ (List.mem_of_getElem? (i := 95) rfl)) rfl
set_option maxRecDepth 100000 in
theorem m_605 : (.fieldLink RX8 17 "BookOfAll$Rules" "putSheet" "[I" : Cond) ∈ jw := jin (jt_1 _ (List.mem_of_getElem? (i := 100) rfl)) rfl
set_option maxRecDepth 100000 in
theorem m_606 : (.fieldLink RX8 21 "BookOfAll$Rules" "putVolume" "[I" : Cond) ∈ jw := jin (jt_1 _ (List.mem_of_getElem? (i := 101) rfl)) rfl
set_option maxRecDepth 100000 in
theorem m_607 : (.fieldLink RX8 24 "BookOfAll$Rules" "putDay" "[I" : Cond) ∈ jw := jin (jt_1 _ (List.mem_of_getElem? (i := 102) rfl)) rfl
set_option maxRecDepth 100000 in
theorem m_608 : (.fieldLink RX8 27 "BookOfAll$Rules" "names" "[I" : Cond) ∈ jw := jin (jt_1 _ (List.mem_of_getElem? (i := 104) rfl)) rfl
set_option maxRecDepth 100000 in
theorem m_609 : (.fieldLink RX8 30 "BookOfAll$Rules" "stack" "[I" : Cond) ∈ jw := jin (jt_1 _ (List.mem_of_getElem? (i := 105) rfl)) rfl
set_option maxRecDepth 100000 in
theorem m_610 : (.code yX8_init cX8_init 1 none : Cond) ∈ jw := jin (jt_1 _ (List.mem_of_getElem? (i := 93) rfl)) rfl
set_option maxRecDepth 100000 in
theorem m_611 : (.instanceMethod yX8_init : Cond) ∈ jw := jin (jt_1 _ (List.mem_of_getElem? (i := 92) rfl)) rfl
set_option maxRecDepth 100000 in
theorem m_612 : (.classLink RX12 23 RX6 : Cond) ∈ jw := jin (jt_1 _ (List.mem_of_getElem? (i := 123) rfl)) rfl
set_option maxRecDepth 100000 in
theorem m_613 : (.instantiable RX6 6 : Cond) ∈ jw := jin (jt_1 _ (List.mem_of_getElem? (i := 124) rfl)) rfl
set_option maxRecDepth 100000 in
theorem m_614 : (.methodLink RX6 1 objectInit : Cond) ∈ jw := jin (jt_1 _ (List.mem_of_getElem? (i := 128) rfl)) rfl
set_option maxRecDepth 100000 in
theorem m_615 : (.code yX6_init cX6_init 2 none : Cond) ∈ jw := jin (jt_1 _ (List.mem_of_getElem? (i := 127) rfl)) rfl
set_option maxRecDepth 100000 in
theorem m_616 : (.methodLink RX12 25 yX6_init : Cond) ∈ jw := jin (jt_1 _ (List.mem_of_getElem? (i := 125) rfl)) rfl
set_option maxRecDepth 100000 in
theorem m_617 : (.instanceMethod yX6_init : Cond) ∈ jw := jin (jt_1 _ (List.mem_of_getElem? (i := 126) rfl)) rfl
set_option maxRecDepth 100000 in
theorem m_618 : (.classLink RX12 32 RX11 : Cond) ∈ jw := jin (jt_1 _ (List.mem_of_getElem? (i := 149) rfl)) rfl
set_option maxRecDepth 100000 in
theorem m_619 : (.instantiable RX11 7 : Cond) ∈ jw := jin (jt_1 _ (List.mem_of_getElem? (i := 151) rfl)) rfl
set_option maxRecDepth 100000 in
theorem m_620 : (.initialized RX11 : Cond) ∈ jw := jin (jt_1 _ (List.mem_of_getElem? (i := 5) rfl)) rfl
set_option maxRecDepth 100000 in
theorem m_621 : (.methodLink RX11 3 objectInit : Cond) ∈ jw := jin (jt_1 _ (List.mem_of_getElem? (i := 155) rfl)) rfl
set_option maxRecDepth 100000 in
theorem m_622 : (.fieldLink RX11 9 "BookOfAll$Volume" "setDay" "I" : Cond) ∈ jw := jin (jt_1 _ (List.mem_of_getElem? (i := 161) rfl)) rfl
set_option maxRecDepth 100000 in
theorem m_623 : (.fieldLink RX11 15 "BookOfAll$Volume" "order" "[I" : Cond) ∈ jw := jin (jt_1 _ (List.mem_of_getElem? (i := 163) rfl)) rfl
set_option maxRecDepth 100000 in
theorem m_624 : (.fieldLink RX11 19 "BookOfAll$Volume" "laid" "[I" : Cond) ∈ jw := jin (jt_1 _ (List.mem_of_getElem? (i := 165) rfl)) rfl
set_option maxRecDepth 100000 in
theorem m_625 : (.methodLink RX11 22 Lib.Math.min.name : Cond) ∈ jw := jin (jt_1 _ (List.mem_of_getElem? (i := 156) rfl)) rfl
set_option maxRecDepth 100000 in
theorem m_626 : (.fieldLink RX11 28 "BookOfAll$Volume" "lastLetter" "I" : Cond) ∈ jw := jin (jt_1 _ (List.mem_of_getElem? (i := 159) rfl)) rfl
set_option maxRecDepth 100000 in
theorem m_627 : (.code yX11_init cX11_init 2 none : Cond) ∈ jw := jin (jt_1 _ (List.mem_of_getElem? (i := 154) rfl)) rfl
set_option maxRecDepth 100000 in
theorem m_628 : (.methodLink RX12 38 yX11_init : Cond) ∈ jw := jin (jt_1 _ (List.mem_of_getElem? (i := 152) rfl)) rfl
set_option maxRecDepth 100000 in
theorem m_629 : (.instanceMethod yX11_init : Cond) ∈ jw := jin (jt_1 _ (List.mem_of_getElem? (i := 153) rfl)) rfl
set_option maxRecDepth 100000 in
theorem m_630 : (.classLink RX12 57 RX4 : Cond) ∈ jw := jin (jt_1 _ (List.mem_of_getElem? (i := 190) rfl)) rfl
set_option maxRecDepth 100000 in
theorem m_631 : (.fieldLink RX12 59 "BookOfAll" "lines" "[LBookOfAll$Line;" : Cond) ∈ jw := jin (jt_2 _ (List.mem_of_getElem? (i := 97) rfl)) rfl
set_option maxRecDepth 100000 in
theorem m_632 : (.classLink RX12 63 RX5 : Cond) ∈ jw := jin (jt_1 _ (List.mem_of_getElem? (i := 192) rfl)) rfl
set_option maxRecDepth 100000 in
theorem m_633 : (.instantiable RX5 12 : Cond) ∈ jw := jin (jt_1 _ (List.mem_of_getElem? (i := 193) rfl)) rfl
set_option maxRecDepth 100000 in
theorem m_634 : (.methodLink RX5 3 objectInit : Cond) ∈ jw := jin (jt_1 _ (List.mem_of_getElem? (i := 197) rfl)) rfl
set_option maxRecDepth 100000 in
theorem m_635 : (.fieldLink RX5 27 "BookOfAll$News" "wrongLine" "[I" : Cond) ∈ jw := jin (jt_1 _ (List.mem_of_getElem? (i := 207) rfl)) rfl
set_option maxRecDepth 100000 in
theorem m_636 : (.fieldLink RX5 30 "BookOfAll$News" "kept" "[I" : Cond) ∈ jw := jin (jt_1 _ (List.mem_of_getElem? (i := 208) rfl)) rfl
set_option maxRecDepth 100000 in
theorem m_637 : (.fieldLink RX5 33 "BookOfAll$News" "should" "[I" : Cond) ∈ jw := jin (jt_1 _ (List.mem_of_getElem? (i := 209) rfl)) rfl
set_option maxRecDepth 100000 in
theorem m_638 : (.fieldLink RX5 36 "BookOfAll$News" "erratumDay" "[I" : Cond) ∈ jw := jin (jt_1 _ (List.mem_of_getElem? (i := 210) rfl)) rfl
set_option maxRecDepth 100000 in
theorem m_639 : (.fieldLink RX5 39 "BookOfAll$News" "missed" "[Z" : Cond) ∈ jw := jin (jt_1 _ (List.mem_of_getElem? (i := 211) rfl)) rfl
set_option maxRecDepth 100000 in
theorem m_640 : (.methodLink RX5 43 yJ7_fill_53178 : Cond) ∈ jw := jin (jt_1 _ (List.mem_of_getElem? (i := 198) rfl)) rfl
set_option maxRecDepth 100000 in
theorem m_641 : (.code yX5_init cX5_init 1 none : Cond) ∈ jw := jin (jt_1 _ (List.mem_of_getElem? (i := 196) rfl)) rfl
set_option maxRecDepth 100000 in
theorem m_642 : (.methodLink RX12 65 yX5_init : Cond) ∈ jw := jin (jt_1 _ (List.mem_of_getElem? (i := 194) rfl)) rfl
set_option maxRecDepth 100000 in
theorem m_643 : (.instanceMethod yX5_init : Cond) ∈ jw := jin (jt_1 _ (List.mem_of_getElem? (i := 195) rfl)) rfl
set_option maxRecDepth 100000 in
theorem m_644 : (.methodLink RX12 76 yJ7_fill_53178 : Cond) ∈ jw := jin (jt_2 _ (List.mem_of_getElem? (i := 0) rfl)) rfl
set_option maxRecDepth 100000 in
theorem m_645 : (.classLink RX12 82 RX3 : Cond) ∈ jw := jin (jt_2 _ (List.mem_of_getElem? (i := 1) rfl)) rfl
set_option maxRecDepth 100000 in
theorem m_646 : (.instantiable RX3 7 : Cond) ∈ jw := jin (jt_2 _ (List.mem_of_getElem? (i := 2) rfl)) rfl
set_option maxRecDepth 100000 in
theorem m_647 : (.methodLink RX3 3 objectInit : Cond) ∈ jw := jin (jt_2 _ (List.mem_of_getElem? (i := 6) rfl)) rfl
set_option maxRecDepth 100000 in
theorem m_648 : (.fieldLink RX3 9 "BookOfAll$Lengths" "article" "[I" : Cond) ∈ jw := jin (jt_2 _ (List.mem_of_getElem? (i := 7) rfl)) rfl
set_option maxRecDepth 100000 in
theorem m_649 : (.fieldLink RX3 15 "BookOfAll$Lengths" "asked" "[I" : Cond) ∈ jw := jin (jt_2 _ (List.mem_of_getElem? (i := 8) rfl)) rfl
set_option maxRecDepth 100000 in
theorem m_650 : (.code yX3_init cX3_init 1 none : Cond) ∈ jw := jin (jt_2 _ (List.mem_of_getElem? (i := 5) rfl)) rfl
set_option maxRecDepth 100000 in
theorem m_651 : (.instanceMethod yX3_init : Cond) ∈ jw := jin (jt_2 _ (List.mem_of_getElem? (i := 4) rfl)) rfl
set_option maxRecDepth 100000 in
theorem m_652 : (.classLink RX12 89 RX1 : Cond) ∈ jw := jin (jt_2 _ (List.mem_of_getElem? (i := 30) rfl)) rfl
set_option maxRecDepth 100000 in
theorem m_653 : (.instantiable RX1 10 : Cond) ∈ jw := jin (jt_2 _ (List.mem_of_getElem? (i := 31) rfl)) rfl
set_option maxRecDepth 100000 in
theorem m_654 : (.methodLink RX1 5 objectInit : Cond) ∈ jw := jin (jt_2 _ (List.mem_of_getElem? (i := 35) rfl)) rfl
set_option maxRecDepth 100000 in
theorem m_655 : (.fieldLink RX1 11 "BookOfAll$Giver" "article" "[I" : Cond) ∈ jw := jin (jt_2 _ (List.mem_of_getElem? (i := 36) rfl)) rfl
set_option maxRecDepth 100000 in
theorem m_656 : (.fieldLink RX1 15 "BookOfAll$Giver" "lack" "[I" : Cond) ∈ jw := jin (jt_2 _ (List.mem_of_getElem? (i := 37) rfl)) rfl
set_option maxRecDepth 100000 in
theorem m_657 : (.fieldLink RX1 18 "BookOfAll$Giver" "chosen" "[I" : Cond) ∈ jw := jin (jt_2 _ (List.mem_of_getElem? (i := 38) rfl)) rfl
set_option maxRecDepth 100000 in
theorem m_658 : (.fieldLink RX1 21 "BookOfAll$Giver" "hand" "[I" : Cond) ∈ jw := jin (jt_2 _ (List.mem_of_getElem? (i := 40) rfl)) rfl
set_option maxRecDepth 100000 in
theorem m_659 : (.fieldLink RX1 24 "BookOfAll$Giver" "room" "[I" : Cond) ∈ jw := jin (jt_2 _ (List.mem_of_getElem? (i := 41) rfl)) rfl
set_option maxRecDepth 100000 in
theorem m_660 : (.fieldLink RX1 27 "BookOfAll$Giver" "takes" "[I" : Cond) ∈ jw := jin (jt_2 _ (List.mem_of_getElem? (i := 42) rfl)) rfl
set_option maxRecDepth 100000 in
theorem m_661 : (.fieldLink RX1 30 "BookOfAll$Giver" "sums" "[I" : Cond) ∈ jw := jin (jt_2 _ (List.mem_of_getElem? (i := 45) rfl)) rfl
set_option maxRecDepth 100000 in
theorem m_662 : (.fieldLink RX1 33 "BookOfAll$Giver" "reached" "[Z" : Cond) ∈ jw := jin (jt_2 _ (List.mem_of_getElem? (i := 46) rfl)) rfl
set_option maxRecDepth 100000 in
theorem m_663 : (.code yX1_init cX1_init 1 none : Cond) ∈ jw := jin (jt_2 _ (List.mem_of_getElem? (i := 34) rfl)) rfl
set_option maxRecDepth 100000 in
theorem m_664 : (.instanceMethod yX1_init : Cond) ∈ jw := jin (jt_2 _ (List.mem_of_getElem? (i := 33) rfl)) rfl
set_option maxRecDepth 100000 in
theorem m_665 : (.classLink RX12 96 RX10 : Cond) ∈ jw := jin (jt_2 _ (List.mem_of_getElem? (i := 68) rfl)) rfl
set_option maxRecDepth 100000 in
theorem m_666 : (.instantiable RX10 3 : Cond) ∈ jw := jin (jt_2 _ (List.mem_of_getElem? (i := 69) rfl)) rfl
set_option maxRecDepth 100000 in
theorem m_667 : (.methodLink RX10 3 objectInit : Cond) ∈ jw := jin (jt_2 _ (List.mem_of_getElem? (i := 73) rfl)) rfl
set_option maxRecDepth 100000 in
theorem m_668 : (.fieldLink RX10 15 "BookOfAll$Thief" "weight" "[I" : Cond) ∈ jw := jin (jt_2 _ (List.mem_of_getElem? (i := 77) rfl)) rfl
set_option maxRecDepth 100000 in
theorem m_669 : (.code yX10_init cX10_init 1 none : Cond) ∈ jw := jin (jt_2 _ (List.mem_of_getElem? (i := 72) rfl)) rfl
set_option maxRecDepth 100000 in
theorem m_670 : (.instanceMethod yX10_init : Cond) ∈ jw := jin (jt_2 _ (List.mem_of_getElem? (i := 71) rfl)) rfl
set_option maxRecDepth 100000 in
theorem m_671 : (.methodLink RX13 1 objectInit : Cond) ∈ jw := jin (jt_7 _ (List.mem_of_getElem? (i := 54) rfl)) rfl
set_option maxRecDepth 100000 in
theorem m_672 : (.methodLink RL 13 yX12_feed : Cond) ∈ jw := jin (jt_2 _ (List.mem_of_getElem? (i := 146) rfl)) rfl
set_option maxRecDepth 100000 in
theorem m_673 : (.instanceMethod yX12_feed : Cond) ∈ jw := jin (jt_2 _ (List.mem_of_getElem? (i := 147) rfl)) rfl
set_option maxRecDepth 100000 in
theorem m_674 : (.selects RX12 yX12_feed yX12_feed : Cond) ∈ jw := jin (jt_2 _ (List.mem_of_getElem? (i := 148) rfl)) rfl
set_option maxRecDepth 100000 in
theorem m_675 : (.code yX12_feed cX12_feed 6 (some .int) : Cond) ∈ jw := jin (jt_2 _ (List.mem_of_getElem? (i := 149) rfl)) rfl
set_option maxRecDepth 100000 in
theorem m_676 : (.methodLink RL 17 yX13_feed : Cond) ∈ jw := jin (jt_8 _ (List.mem_of_getElem? (i := 128) rfl)) rfl
set_option maxRecDepth 100000 in
theorem m_677 : (.instanceMethod yX13_feed : Cond) ∈ jw := jin (jt_8 _ (List.mem_of_getElem? (i := 129) rfl)) rfl
set_option maxRecDepth 100000 in
theorem m_678 : (.selects RX13 yX13_feed yX13_feed : Cond) ∈ jw := jin (jt_8 _ (List.mem_of_getElem? (i := 130) rfl)) rfl
set_option maxRecDepth 100000 in
theorem m_679 : (.code yX13_feed cX13_feed 8 (some .int) : Cond) ∈ jw := jin (jt_8 _ (List.mem_of_getElem? (i := 131) rfl)) rfl
set_option maxRecDepth 100000 in
theorem m_680 : (.methodLink RL 18 yX12_end : Cond) ∈ jw := jin (jt_2 _ (List.mem_of_getElem? (i := 154) rfl)) rfl
set_option maxRecDepth 100000 in
theorem m_681 : (.instanceMethod yX12_end : Cond) ∈ jw := jin (jt_2 _ (List.mem_of_getElem? (i := 155) rfl)) rfl
set_option maxRecDepth 100000 in
theorem m_682 : (.selects RX12 yX12_end yX12_end : Cond) ∈ jw := jin (jt_2 _ (List.mem_of_getElem? (i := 156) rfl)) rfl
set_option maxRecDepth 100000 in
theorem m_683 : (.code yX12_end cX12_end 2 (some .boolean) : Cond) ∈ jw := jin (jt_2 _ (List.mem_of_getElem? (i := 157) rfl)) rfl
set_option maxRecDepth 100000 in
theorem m_684 : (.methodLink RL 22 yX13_end : Cond) ∈ jw := jin (jt_8 _ (List.mem_of_getElem? (i := 132) rfl)) rfl
set_option maxRecDepth 100000 in
theorem m_685 : (.instanceMethod yX13_end : Cond) ∈ jw := jin (jt_8 _ (List.mem_of_getElem? (i := 133) rfl)) rfl
set_option maxRecDepth 100000 in
theorem m_686 : (.selects RX13 yX13_end yX13_end : Cond) ∈ jw := jin (jt_8 _ (List.mem_of_getElem? (i := 134) rfl)) rfl
set_option maxRecDepth 100000 in
theorem m_687 : (.code yX13_end cX13_end 2 (some .boolean) : Cond) ∈ jw := jin (jt_8 _ (List.mem_of_getElem? (i := 135) rfl)) rfl
set_option maxRecDepth 100000 in
theorem m_688 : (.methodLink RL 23 yX12_fault : Cond) ∈ jw := jin (jt_2 _ (List.mem_of_getElem? (i := 158) rfl)) rfl
set_option maxRecDepth 100000 in
theorem m_689 : (.instanceMethod yX12_fault : Cond) ∈ jw := jin (jt_2 _ (List.mem_of_getElem? (i := 159) rfl)) rfl
set_option maxRecDepth 100000 in
theorem m_690 : (.selects RX12 yX12_fault yX12_fault : Cond) ∈ jw := jin (jt_2 _ (List.mem_of_getElem? (i := 160) rfl)) rfl
set_option maxRecDepth 100000 in
theorem m_691 : (.code yX12_fault cX12_fault 1 (some .int) : Cond) ∈ jw := jin (jt_2 _ (List.mem_of_getElem? (i := 161) rfl)) rfl
set_option maxRecDepth 100000 in
theorem m_692 : (.methodLink RL 27 yX13_fault : Cond) ∈ jw := jin (jt_8 _ (List.mem_of_getElem? (i := 139) rfl)) rfl
set_option maxRecDepth 100000 in
theorem m_693 : (.instanceMethod yX13_fault : Cond) ∈ jw := jin (jt_8 _ (List.mem_of_getElem? (i := 140) rfl)) rfl
set_option maxRecDepth 100000 in
theorem m_694 : (.selects RX13 yX13_fault yX13_fault : Cond) ∈ jw := jin (jt_8 _ (List.mem_of_getElem? (i := 141) rfl)) rfl
set_option maxRecDepth 100000 in
theorem m_695 : (.code yX13_fault cX13_fault 1 (some .int) : Cond) ∈ jw := jin (jt_8 _ (List.mem_of_getElem? (i := 142) rfl)) rfl
set_option maxRecDepth 100000 in
theorem m_696 : (.methodLink RL 28 yX12_sheet : Cond) ∈ jw := jin (jt_3 _ (List.mem_of_getElem? (i := 148) rfl)) rfl
set_option maxRecDepth 100000 in
theorem m_697 : (.instanceMethod yX12_sheet : Cond) ∈ jw := jin (jt_3 _ (List.mem_of_getElem? (i := 149) rfl)) rfl
set_option maxRecDepth 100000 in
theorem m_698 : (.selects RX12 yX12_sheet yX12_sheet : Cond) ∈ jw := jin (jt_3 _ (List.mem_of_getElem? (i := 150) rfl)) rfl
set_option maxRecDepth 100000 in
theorem m_699 : (.code yX12_sheet cX12_sheet 2 (some .int) : Cond) ∈ jw := jin (jt_3 _ (List.mem_of_getElem? (i := 151) rfl)) rfl
set_option maxRecDepth 100000 in
theorem m_700 : (.methodLink RL 31 yX13_sheet : Cond) ∈ jw := jin (jt_8 _ (List.mem_of_getElem? (i := 234) rfl)) rfl
set_option maxRecDepth 100000 in
theorem m_701 : (.instanceMethod yX13_sheet : Cond) ∈ jw := jin (jt_8 _ (List.mem_of_getElem? (i := 235) rfl)) rfl
set_option maxRecDepth 100000 in
theorem m_702 : (.selects RX13 yX13_sheet yX13_sheet : Cond) ∈ jw := jin (jt_8 _ (List.mem_of_getElem? (i := 236) rfl)) rfl
set_option maxRecDepth 100000 in
theorem m_703 : (.code yX13_sheet cX13_sheet 4 (some .int) : Cond) ∈ jw := jin (jt_8 _ (List.mem_of_getElem? (i := 237) rfl)) rfl
set_option maxRecDepth 100000 in
theorem m_704 : (.methodLink RL 32 yX12_force : Cond) ∈ jw := jin (jt_3 _ (List.mem_of_getElem? (i := 213) rfl)) rfl
set_option maxRecDepth 100000 in
theorem m_705 : (.instanceMethod yX12_force : Cond) ∈ jw := jin (jt_3 _ (List.mem_of_getElem? (i := 214) rfl)) rfl
set_option maxRecDepth 100000 in
theorem m_706 : (.selects RX12 yX12_force yX12_force : Cond) ∈ jw := jin (jt_3 _ (List.mem_of_getElem? (i := 215) rfl)) rfl
set_option maxRecDepth 100000 in
theorem m_707 : (.code yX12_force cX12_force 5 (some .int) : Cond) ∈ jw := jin (jt_3 _ (List.mem_of_getElem? (i := 216) rfl)) rfl
set_option maxRecDepth 100000 in
theorem m_708 : (.methodLink RL 36 yX13_force : Cond) ∈ jw := jin (jt_8 _ (List.mem_of_getElem? (i := 238) rfl)) rfl
set_option maxRecDepth 100000 in
theorem m_709 : (.instanceMethod yX13_force : Cond) ∈ jw := jin (jt_8 _ (List.mem_of_getElem? (i := 239) rfl)) rfl
set_option maxRecDepth 100000 in
theorem m_710 : (.selects RX13 yX13_force yX13_force : Cond) ∈ jw := jin (jt_9 _ (List.mem_of_getElem? (i := 0) rfl)) rfl
set_option maxRecDepth 100000 in
theorem m_711 : (.code yX13_force cX13_force 3 (some .int) : Cond) ∈ jw := jin (jt_9 _ (List.mem_of_getElem? (i := 1) rfl)) rfl
set_option maxRecDepth 100000 in
theorem m_712 : (.methodLink RL 37 yX12_rule : Cond) ∈ jw := jin (jt_4 _ (List.mem_of_getElem? (i := 63) rfl)) rfl
set_option maxRecDepth 100000 in
theorem m_713 : (.instanceMethod yX12_rule : Cond) ∈ jw := jin (jt_4 _ (List.mem_of_getElem? (i := 64) rfl)) rfl
set_option maxRecDepth 100000 in
theorem m_714 : (.selects RX12 yX12_rule yX12_rule : Cond) ∈ jw := jin (jt_4 _ (List.mem_of_getElem? (i := 65) rfl)) rfl
set_option maxRecDepth 100000 in
theorem m_715 : (.code yX12_rule cX12_rule 5 (some .int) : Cond) ∈ jw := jin (jt_4 _ (List.mem_of_getElem? (i := 66) rfl)) rfl
set_option maxRecDepth 100000 in
theorem m_716 : (.methodLink RL 41 yX13_rule : Cond) ∈ jw := jin (jt_9 _ (List.mem_of_getElem? (i := 5) rfl)) rfl
set_option maxRecDepth 100000 in
theorem m_717 : (.instanceMethod yX13_rule : Cond) ∈ jw := jin (jt_9 _ (List.mem_of_getElem? (i := 6) rfl)) rfl
set_option maxRecDepth 100000 in
theorem m_718 : (.selects RX13 yX13_rule yX13_rule : Cond) ∈ jw := jin (jt_9 _ (List.mem_of_getElem? (i := 7) rfl)) rfl
set_option maxRecDepth 100000 in
theorem m_719 : (.code yX13_rule cX13_rule 5 (some .int) : Cond) ∈ jw := jin (jt_9 _ (List.mem_of_getElem? (i := 8) rfl)) rfl
set_option maxRecDepth 100000 in
theorem m_720 : (.methodLink RL 42 yX12_go : Cond) ∈ jw := jin (jt_4 _ (List.mem_of_getElem? (i := 71) rfl)) rfl
set_option maxRecDepth 100000 in
theorem m_721 : (.instanceMethod yX12_go : Cond) ∈ jw := jin (jt_4 _ (List.mem_of_getElem? (i := 72) rfl)) rfl
set_option maxRecDepth 100000 in
theorem m_722 : (.selects RX12 yX12_go yX12_go : Cond) ∈ jw := jin (jt_4 _ (List.mem_of_getElem? (i := 73) rfl)) rfl
set_option maxRecDepth 100000 in
theorem m_723 : (.code yX12_go cX12_go 2 (some .int) : Cond) ∈ jw := jin (jt_4 _ (List.mem_of_getElem? (i := 74) rfl)) rfl
set_option maxRecDepth 100000 in
theorem m_724 : (.methodLink RL 46 yX13_go : Cond) ∈ jw := jin (jt_9 _ (List.mem_of_getElem? (i := 13) rfl)) rfl
set_option maxRecDepth 100000 in
theorem m_725 : (.instanceMethod yX13_go : Cond) ∈ jw := jin (jt_9 _ (List.mem_of_getElem? (i := 14) rfl)) rfl
set_option maxRecDepth 100000 in
theorem m_726 : (.selects RX13 yX13_go yX13_go : Cond) ∈ jw := jin (jt_9 _ (List.mem_of_getElem? (i := 15) rfl)) rfl
set_option maxRecDepth 100000 in
theorem m_727 : (.code yX13_go cX13_go 2 (some .int) : Cond) ∈ jw := jin (jt_9 _ (List.mem_of_getElem? (i := 16) rfl)) rfl
set_option maxRecDepth 100000 in
theorem m_728 : (.methodLink RL 47 yX12_bound : Cond) ∈ jw := jin (jt_4 _ (List.mem_of_getElem? (i := 76) rfl)) rfl
set_option maxRecDepth 100000 in
theorem m_729 : (.instanceMethod yX12_bound : Cond) ∈ jw := jin (jt_4 _ (List.mem_of_getElem? (i := 77) rfl)) rfl
set_option maxRecDepth 100000 in
theorem m_730 : (.selects RX12 yX12_bound yX12_bound : Cond) ∈ jw := jin (jt_4 _ (List.mem_of_getElem? (i := 78) rfl)) rfl
set_option maxRecDepth 100000 in
theorem m_731 : (.code yX12_bound cX12_bound 4 (some .boolean) : Cond) ∈ jw := jin (jt_4 _ (List.mem_of_getElem? (i := 79) rfl)) rfl
set_option maxRecDepth 100000 in
theorem m_732 : (.methodLink RL 51 yX13_bound : Cond) ∈ jw := jin (jt_9 _ (List.mem_of_getElem? (i := 17) rfl)) rfl
set_option maxRecDepth 100000 in
theorem m_733 : (.instanceMethod yX13_bound : Cond) ∈ jw := jin (jt_9 _ (List.mem_of_getElem? (i := 18) rfl)) rfl
set_option maxRecDepth 100000 in
theorem m_734 : (.selects RX13 yX13_bound yX13_bound : Cond) ∈ jw := jin (jt_9 _ (List.mem_of_getElem? (i := 19) rfl)) rfl
set_option maxRecDepth 100000 in
theorem m_735 : (.code yX13_bound cX13_bound 4 (some .boolean) : Cond) ∈ jw := jin (jt_9 _ (List.mem_of_getElem? (i := 20) rfl)) rfl
set_option maxRecDepth 100000 in
theorem m_736 : (.methodLink RL 52 yX12_article : Cond) ∈ jw := jin (jt_4 _ (List.mem_of_getElem? (i := 80) rfl)) rfl
set_option maxRecDepth 100000 in
theorem m_737 : (.instanceMethod yX12_article : Cond) ∈ jw := jin (jt_4 _ (List.mem_of_getElem? (i := 81) rfl)) rfl
set_option maxRecDepth 100000 in
theorem m_738 : (.selects RX12 yX12_article yX12_article : Cond) ∈ jw := jin (jt_4 _ (List.mem_of_getElem? (i := 82) rfl)) rfl
set_option maxRecDepth 100000 in
theorem m_739 : (.code yX12_article cX12_article 9 (some .int) : Cond) ∈ jw := jin (jt_4 _ (List.mem_of_getElem? (i := 83) rfl)) rfl
set_option maxRecDepth 100000 in
theorem m_740 : (.methodLink RL 56 yX13_article : Cond) ∈ jw := jin (jt_9 _ (List.mem_of_getElem? (i := 21) rfl)) rfl
set_option maxRecDepth 100000 in
theorem m_741 : (.instanceMethod yX13_article : Cond) ∈ jw := jin (jt_9 _ (List.mem_of_getElem? (i := 22) rfl)) rfl
set_option maxRecDepth 100000 in
theorem m_742 : (.selects RX13 yX13_article yX13_article : Cond) ∈ jw := jin (jt_9 _ (List.mem_of_getElem? (i := 23) rfl)) rfl
set_option maxRecDepth 100000 in
theorem m_743 : (.code yX13_article cX13_article 7 (some .int) : Cond) ∈ jw := jin (jt_9 _ (List.mem_of_getElem? (i := 24) rfl)) rfl
set_option maxRecDepth 100000 in
theorem m_744 : (.methodLink RL 57 yX12_pointer : Cond) ∈ jw := jin (jt_4 _ (List.mem_of_getElem? (i := 176) rfl)) rfl
set_option maxRecDepth 100000 in
theorem m_745 : (.instanceMethod yX12_pointer : Cond) ∈ jw := jin (jt_4 _ (List.mem_of_getElem? (i := 177) rfl)) rfl
set_option maxRecDepth 100000 in
theorem m_746 : (.selects RX12 yX12_pointer yX12_pointer : Cond) ∈ jw := jin (jt_4 _ (List.mem_of_getElem? (i := 178) rfl)) rfl
set_option maxRecDepth 100000 in
theorem m_747 : (.code yX12_pointer cX12_pointer 6 (some .int) : Cond) ∈ jw := jin (jt_4 _ (List.mem_of_getElem? (i := 179) rfl)) rfl
set_option maxRecDepth 100000 in
theorem m_748 : (.methodLink RL 60 yX13_pointer : Cond) ∈ jw := jin (jt_9 _ (List.mem_of_getElem? (i := 33) rfl)) rfl
set_option maxRecDepth 100000 in
theorem m_749 : (.instanceMethod yX13_pointer : Cond) ∈ jw := jin (jt_9 _ (List.mem_of_getElem? (i := 34) rfl)) rfl
set_option maxRecDepth 100000 in
theorem m_750 : (.selects RX13 yX13_pointer yX13_pointer : Cond) ∈ jw := jin (jt_9 _ (List.mem_of_getElem? (i := 35) rfl)) rfl
set_option maxRecDepth 100000 in
theorem m_751 : (.code yX13_pointer cX13_pointer 7 (some .int) : Cond) ∈ jw := jin (jt_9 _ (List.mem_of_getElem? (i := 36) rfl)) rfl
set_option maxRecDepth 100000 in
theorem m_752 : (.methodLink RL 61 yX12_plate : Cond) ∈ jw := jin (jt_4 _ (List.mem_of_getElem? (i := 180) rfl)) rfl
set_option maxRecDepth 100000 in
theorem m_753 : (.instanceMethod yX12_plate : Cond) ∈ jw := jin (jt_4 _ (List.mem_of_getElem? (i := 181) rfl)) rfl
set_option maxRecDepth 100000 in
theorem m_754 : (.selects RX12 yX12_plate yX12_plate : Cond) ∈ jw := jin (jt_4 _ (List.mem_of_getElem? (i := 182) rfl)) rfl
set_option maxRecDepth 100000 in
theorem m_755 : (.code yX12_plate cX12_plate 7 (some .int) : Cond) ∈ jw := jin (jt_4 _ (List.mem_of_getElem? (i := 183) rfl)) rfl
set_option maxRecDepth 100000 in
theorem m_756 : (.methodLink RL 64 yX13_plate : Cond) ∈ jw := jin (jt_9 _ (List.mem_of_getElem? (i := 41) rfl)) rfl
set_option maxRecDepth 100000 in
theorem m_757 : (.instanceMethod yX13_plate : Cond) ∈ jw := jin (jt_9 _ (List.mem_of_getElem? (i := 42) rfl)) rfl
set_option maxRecDepth 100000 in
theorem m_758 : (.selects RX13 yX13_plate yX13_plate : Cond) ∈ jw := jin (jt_9 _ (List.mem_of_getElem? (i := 43) rfl)) rfl
set_option maxRecDepth 100000 in
theorem m_759 : (.code yX13_plate cX13_plate 11 (some .int) : Cond) ∈ jw := jin (jt_9 _ (List.mem_of_getElem? (i := 44) rfl)) rfl
set_option maxRecDepth 100000 in
theorem m_760 : (.methodLink RL 65 yX12_points : Cond) ∈ jw := jin (jt_4 _ (List.mem_of_getElem? (i := 188) rfl)) rfl
set_option maxRecDepth 100000 in
theorem m_761 : (.instanceMethod yX12_points : Cond) ∈ jw := jin (jt_4 _ (List.mem_of_getElem? (i := 189) rfl)) rfl
set_option maxRecDepth 100000 in
theorem m_762 : (.selects RX12 yX12_points yX12_points : Cond) ∈ jw := jin (jt_4 _ (List.mem_of_getElem? (i := 190) rfl)) rfl
set_option maxRecDepth 100000 in
theorem m_763 : (.code yX12_points cX12_points 4 (some .boolean) : Cond) ∈ jw := jin (jt_4 _ (List.mem_of_getElem? (i := 191) rfl)) rfl
set_option maxRecDepth 100000 in
theorem m_764 : (.methodLink RL 68 yX13_points : Cond) ∈ jw := jin (jt_9 _ (List.mem_of_getElem? (i := 45) rfl)) rfl
set_option maxRecDepth 100000 in
theorem m_765 : (.instanceMethod yX13_points : Cond) ∈ jw := jin (jt_9 _ (List.mem_of_getElem? (i := 46) rfl)) rfl
set_option maxRecDepth 100000 in
theorem m_766 : (.selects RX13 yX13_points yX13_points : Cond) ∈ jw := jin (jt_9 _ (List.mem_of_getElem? (i := 47) rfl)) rfl
set_option maxRecDepth 100000 in
theorem m_767 : (.code yX13_points cX13_points 3 (some .boolean) : Cond) ∈ jw := jin (jt_9 _ (List.mem_of_getElem? (i := 48) rfl)) rfl
set_option maxRecDepth 100000 in
theorem m_768 : (.methodLink RL 69 yX12_strike : Cond) ∈ jw := jin (jt_4 _ (List.mem_of_getElem? (i := 196) rfl)) rfl
set_option maxRecDepth 100000 in
theorem m_769 : (.instanceMethod yX12_strike : Cond) ∈ jw := jin (jt_4 _ (List.mem_of_getElem? (i := 197) rfl)) rfl
set_option maxRecDepth 100000 in
theorem m_770 : (.selects RX12 yX12_strike yX12_strike : Cond) ∈ jw := jin (jt_4 _ (List.mem_of_getElem? (i := 198) rfl)) rfl
set_option maxRecDepth 100000 in
theorem m_771 : (.code yX12_strike cX12_strike 2 (some .boolean) : Cond) ∈ jw := jin (jt_4 _ (List.mem_of_getElem? (i := 199) rfl)) rfl
set_option maxRecDepth 100000 in
theorem m_772 : (.methodLink RL 72 yX13_strike : Cond) ∈ jw := jin (jt_9 _ (List.mem_of_getElem? (i := 89) rfl)) rfl
set_option maxRecDepth 100000 in
theorem m_773 : (.instanceMethod yX13_strike : Cond) ∈ jw := jin (jt_9 _ (List.mem_of_getElem? (i := 90) rfl)) rfl
set_option maxRecDepth 100000 in
theorem m_774 : (.selects RX13 yX13_strike yX13_strike : Cond) ∈ jw := jin (jt_9 _ (List.mem_of_getElem? (i := 91) rfl)) rfl
set_option maxRecDepth 100000 in
theorem m_775 : (.code yX13_strike cX13_strike 2 (some .boolean) : Cond) ∈ jw := jin (jt_9 _ (List.mem_of_getElem? (i := 92) rfl)) rfl
set_option maxRecDepth 100000 in
theorem m_776 : (.methodLink RL 73 yX12_later : Cond) ∈ jw := jin (jt_4 _ (List.mem_of_getElem? (i := 208) rfl)) rfl
set_option maxRecDepth 100000 in
theorem m_777 : (.instanceMethod yX12_later : Cond) ∈ jw := jin (jt_4 _ (List.mem_of_getElem? (i := 209) rfl)) rfl
set_option maxRecDepth 100000 in
theorem m_778 : (.selects RX12 yX12_later yX12_later : Cond) ∈ jw := jin (jt_4 _ (List.mem_of_getElem? (i := 210) rfl)) rfl
set_option maxRecDepth 100000 in
theorem m_779 : (.code yX12_later cX12_later 2 (some .boolean) : Cond) ∈ jw := jin (jt_4 _ (List.mem_of_getElem? (i := 211) rfl)) rfl
set_option maxRecDepth 100000 in
theorem m_780 : (.methodLink RL 76 yX13_later : Cond) ∈ jw := jin (jt_9 _ (List.mem_of_getElem? (i := 97) rfl)) rfl
set_option maxRecDepth 100000 in
theorem m_781 : (.instanceMethod yX13_later : Cond) ∈ jw := jin (jt_9 _ (List.mem_of_getElem? (i := 98) rfl)) rfl
set_option maxRecDepth 100000 in
theorem m_782 : (.selects RX13 yX13_later yX13_later : Cond) ∈ jw := jin (jt_9 _ (List.mem_of_getElem? (i := 99) rfl)) rfl
set_option maxRecDepth 100000 in
theorem m_783 : (.code yX13_later cX13_later 2 (some .boolean) : Cond) ∈ jw := jin (jt_9 _ (List.mem_of_getElem? (i := 100) rfl)) rfl
set_option maxRecDepth 100000 in
theorem m_784 : (.methodLink RL 77 yX12_volume : Cond) ∈ jw := jin (jt_4 _ (List.mem_of_getElem? (i := 212) rfl)) rfl
set_option maxRecDepth 100000 in
theorem m_785 : (.instanceMethod yX12_volume : Cond) ∈ jw := jin (jt_4 _ (List.mem_of_getElem? (i := 213) rfl)) rfl
set_option maxRecDepth 100000 in
theorem m_786 : (.selects RX12 yX12_volume yX12_volume : Cond) ∈ jw := jin (jt_4 _ (List.mem_of_getElem? (i := 214) rfl)) rfl
set_option maxRecDepth 100000 in
theorem m_787 : (.code yX12_volume cX12_volume 3 (some .int) : Cond) ∈ jw := jin (jt_4 _ (List.mem_of_getElem? (i := 215) rfl)) rfl
set_option maxRecDepth 100000 in
theorem m_788 : (.methodLink RL 80 yX13_volume : Cond) ∈ jw := jin (jt_9 _ (List.mem_of_getElem? (i := 49) rfl)) rfl
set_option maxRecDepth 100000 in
theorem m_789 : (.instanceMethod yX13_volume : Cond) ∈ jw := jin (jt_9 _ (List.mem_of_getElem? (i := 50) rfl)) rfl
set_option maxRecDepth 100000 in
theorem m_790 : (.selects RX13 yX13_volume yX13_volume : Cond) ∈ jw := jin (jt_9 _ (List.mem_of_getElem? (i := 51) rfl)) rfl
set_option maxRecDepth 100000 in
theorem m_791 : (.code yX13_volume cX13_volume 2 (some .int) : Cond) ∈ jw := jin (jt_9 _ (List.mem_of_getElem? (i := 52) rfl)) rfl
set_option maxRecDepth 100000 in
theorem m_792 : (.methodLink RL 81 yX12_at : Cond) ∈ jw := jin (jt_4 _ (List.mem_of_getElem? (i := 220) rfl)) rfl
set_option maxRecDepth 100000 in
theorem m_793 : (.instanceMethod yX12_at : Cond) ∈ jw := jin (jt_4 _ (List.mem_of_getElem? (i := 221) rfl)) rfl
set_option maxRecDepth 100000 in
theorem m_794 : (.selects RX12 yX12_at yX12_at : Cond) ∈ jw := jin (jt_4 _ (List.mem_of_getElem? (i := 222) rfl)) rfl
set_option maxRecDepth 100000 in
theorem m_795 : (.code yX12_at cX12_at 4 (some .int) : Cond) ∈ jw := jin (jt_4 _ (List.mem_of_getElem? (i := 223) rfl)) rfl
set_option maxRecDepth 100000 in
theorem m_796 : (.methodLink RL 84 yX13_at : Cond) ∈ jw := jin (jt_9 _ (List.mem_of_getElem? (i := 101) rfl)) rfl
set_option maxRecDepth 100000 in
theorem m_797 : (.instanceMethod yX13_at : Cond) ∈ jw := jin (jt_9 _ (List.mem_of_getElem? (i := 102) rfl)) rfl
set_option maxRecDepth 100000 in
theorem m_798 : (.selects RX13 yX13_at yX13_at : Cond) ∈ jw := jin (jt_9 _ (List.mem_of_getElem? (i := 103) rfl)) rfl
set_option maxRecDepth 100000 in
theorem m_799 : (.code yX13_at cX13_at 3 (some .int) : Cond) ∈ jw := jin (jt_9 _ (List.mem_of_getElem? (i := 104) rfl)) rfl
set_option maxRecDepth 100000 in
theorem m_800 : (.methodLink RL 85 yX12_why : Cond) ∈ jw := jin (jt_5 _ (List.mem_of_getElem? (i := 6) rfl)) rfl
set_option maxRecDepth 100000 in
theorem m_801 : (.instanceMethod yX12_why : Cond) ∈ jw := jin (jt_5 _ (List.mem_of_getElem? (i := 7) rfl)) rfl
set_option maxRecDepth 100000 in
theorem m_802 : (.selects RX12 yX12_why yX12_why : Cond) ∈ jw := jin (jt_5 _ (List.mem_of_getElem? (i := 8) rfl)) rfl
set_option maxRecDepth 100000 in
theorem m_803 : (.code yX12_why cX12_why 7 (some .int) : Cond) ∈ jw := jin (jt_5 _ (List.mem_of_getElem? (i := 9) rfl)) rfl
set_option maxRecDepth 100000 in
theorem m_804 : (.methodLink RL 88 yX13_why : Cond) ∈ jw := jin (jt_9 _ (List.mem_of_getElem? (i := 117) rfl)) rfl
set_option maxRecDepth 100000 in
theorem m_805 : (.instanceMethod yX13_why : Cond) ∈ jw := jin (jt_9 _ (List.mem_of_getElem? (i := 118) rfl)) rfl
set_option maxRecDepth 100000 in
theorem m_806 : (.selects RX13 yX13_why yX13_why : Cond) ∈ jw := jin (jt_9 _ (List.mem_of_getElem? (i := 119) rfl)) rfl
set_option maxRecDepth 100000 in
theorem m_807 : (.code yX13_why cX13_why 4 (some .int) : Cond) ∈ jw := jin (jt_9 _ (List.mem_of_getElem? (i := 120) rfl)) rfl
set_option maxRecDepth 100000 in
theorem m_808 : (.methodLink RL 89 yX12_hand : Cond) ∈ jw := jin (jt_5 _ (List.mem_of_getElem? (i := 15) rfl)) rfl
set_option maxRecDepth 100000 in
theorem m_809 : (.instanceMethod yX12_hand : Cond) ∈ jw := jin (jt_5 _ (List.mem_of_getElem? (i := 16) rfl)) rfl
set_option maxRecDepth 100000 in
theorem m_810 : (.selects RX12 yX12_hand yX12_hand : Cond) ∈ jw := jin (jt_5 _ (List.mem_of_getElem? (i := 17) rfl)) rfl
set_option maxRecDepth 100000 in
theorem m_811 : (.code yX12_hand cX12_hand 5 (some .int) : Cond) ∈ jw := jin (jt_5 _ (List.mem_of_getElem? (i := 18) rfl)) rfl
set_option maxRecDepth 100000 in
theorem m_812 : (.methodLink RL 92 yX13_hand : Cond) ∈ jw := jin (jt_9 _ (List.mem_of_getElem? (i := 121) rfl)) rfl
set_option maxRecDepth 100000 in
theorem m_813 : (.instanceMethod yX13_hand : Cond) ∈ jw := jin (jt_9 _ (List.mem_of_getElem? (i := 122) rfl)) rfl
set_option maxRecDepth 100000 in
theorem m_814 : (.selects RX13 yX13_hand yX13_hand : Cond) ∈ jw := jin (jt_9 _ (List.mem_of_getElem? (i := 123) rfl)) rfl
set_option maxRecDepth 100000 in
theorem m_815 : (.code yX13_hand cX13_hand 4 (some .int) : Cond) ∈ jw := jin (jt_9 _ (List.mem_of_getElem? (i := 124) rfl)) rfl
set_option maxRecDepth 100000 in
theorem m_816 : (.methodLink RL 93 yX12_enemies : Cond) ∈ jw := jin (jt_5 _ (List.mem_of_getElem? (i := 48) rfl)) rfl
set_option maxRecDepth 100000 in
theorem m_817 : (.instanceMethod yX12_enemies : Cond) ∈ jw := jin (jt_5 _ (List.mem_of_getElem? (i := 49) rfl)) rfl
set_option maxRecDepth 100000 in
theorem m_818 : (.selects RX12 yX12_enemies yX12_enemies : Cond) ∈ jw := jin (jt_5 _ (List.mem_of_getElem? (i := 50) rfl)) rfl
set_option maxRecDepth 100000 in
theorem m_819 : (.code yX12_enemies cX12_enemies 5 (some .boolean) : Cond) ∈ jw := jin (jt_5 _ (List.mem_of_getElem? (i := 51) rfl)) rfl
set_option maxRecDepth 100000 in
theorem m_820 : (.methodLink RL 96 yX13_enemies : Cond) ∈ jw := jin (jt_9 _ (List.mem_of_getElem? (i := 126) rfl)) rfl
set_option maxRecDepth 100000 in
theorem m_821 : (.instanceMethod yX13_enemies : Cond) ∈ jw := jin (jt_9 _ (List.mem_of_getElem? (i := 127) rfl)) rfl
set_option maxRecDepth 100000 in
theorem m_822 : (.selects RX13 yX13_enemies yX13_enemies : Cond) ∈ jw := jin (jt_9 _ (List.mem_of_getElem? (i := 128) rfl)) rfl
set_option maxRecDepth 100000 in
theorem m_823 : (.code yX13_enemies cX13_enemies 3 (some .boolean) : Cond) ∈ jw := jin (jt_9 _ (List.mem_of_getElem? (i := 129) rfl)) rfl
set_option maxRecDepth 100000 in
theorem m_824 : (.methodLink RL 97 yX12_give : Cond) ∈ jw := jin (jt_5 _ (List.mem_of_getElem? (i := 56) rfl)) rfl
set_option maxRecDepth 100000 in
theorem m_825 : (.instanceMethod yX12_give : Cond) ∈ jw := jin (jt_5 _ (List.mem_of_getElem? (i := 57) rfl)) rfl
set_option maxRecDepth 100000 in
theorem m_826 : (.selects RX12 yX12_give yX12_give : Cond) ∈ jw := jin (jt_5 _ (List.mem_of_getElem? (i := 58) rfl)) rfl
set_option maxRecDepth 100000 in
theorem m_827 : (.code yX12_give cX12_give 4 (some .boolean) : Cond) ∈ jw := jin (jt_5 _ (List.mem_of_getElem? (i := 59) rfl)) rfl
set_option maxRecDepth 100000 in
theorem m_828 : (.methodLink RL 100 yX13_give : Cond) ∈ jw := jin (jt_9 _ (List.mem_of_getElem? (i := 134) rfl)) rfl
set_option maxRecDepth 100000 in
theorem m_829 : (.instanceMethod yX13_give : Cond) ∈ jw := jin (jt_9 _ (List.mem_of_getElem? (i := 135) rfl)) rfl
set_option maxRecDepth 100000 in
theorem m_830 : (.selects RX13 yX13_give yX13_give : Cond) ∈ jw := jin (jt_9 _ (List.mem_of_getElem? (i := 136) rfl)) rfl
set_option maxRecDepth 100000 in
theorem m_831 : (.code yX13_give cX13_give 3 (some .boolean) : Cond) ∈ jw := jin (jt_9 _ (List.mem_of_getElem? (i := 137) rfl)) rfl
set_option maxRecDepth 100000 in
theorem m_832 : (.methodLink RL 101 yX12_line : Cond) ∈ jw := jin (jt_5 _ (List.mem_of_getElem? (i := 107) rfl)) rfl
set_option maxRecDepth 100000 in
theorem m_833 : (.instanceMethod yX12_line : Cond) ∈ jw := jin (jt_5 _ (List.mem_of_getElem? (i := 108) rfl)) rfl
set_option maxRecDepth 100000 in
theorem m_834 : (.selects RX12 yX12_line yX12_line : Cond) ∈ jw := jin (jt_5 _ (List.mem_of_getElem? (i := 109) rfl)) rfl
set_option maxRecDepth 100000 in
theorem m_835 : (.code yX12_line cX12_line 7 (some .int) : Cond) ∈ jw := jin (jt_5 _ (List.mem_of_getElem? (i := 110) rfl)) rfl
set_option maxRecDepth 100000 in
theorem m_836 : (.methodLink RL 104 yX13_line : Cond) ∈ jw := jin (jt_9 _ (List.mem_of_getElem? (i := 166) rfl)) rfl
set_option maxRecDepth 100000 in
theorem m_837 : (.instanceMethod yX13_line : Cond) ∈ jw := jin (jt_9 _ (List.mem_of_getElem? (i := 167) rfl)) rfl
set_option maxRecDepth 100000 in
theorem m_838 : (.selects RX13 yX13_line yX13_line : Cond) ∈ jw := jin (jt_9 _ (List.mem_of_getElem? (i := 168) rfl)) rfl
set_option maxRecDepth 100000 in
theorem m_839 : (.code yX13_line cX13_line 7 (some .int) : Cond) ∈ jw := jin (jt_9 _ (List.mem_of_getElem? (i := 169) rfl)) rfl
set_option maxRecDepth 100000 in
theorem m_840 : (.methodLink RL 105 yX12_die : Cond) ∈ jw := jin (jt_5 _ (List.mem_of_getElem? (i := 173) rfl)) rfl
set_option maxRecDepth 100000 in
theorem m_841 : (.instanceMethod yX12_die : Cond) ∈ jw := jin (jt_5 _ (List.mem_of_getElem? (i := 174) rfl)) rfl
set_option maxRecDepth 100000 in
theorem m_842 : (.selects RX12 yX12_die yX12_die : Cond) ∈ jw := jin (jt_5 _ (List.mem_of_getElem? (i := 175) rfl)) rfl
set_option maxRecDepth 100000 in
theorem m_843 : (.code yX12_die cX12_die 3 (some .int) : Cond) ∈ jw := jin (jt_5 _ (List.mem_of_getElem? (i := 176) rfl)) rfl
set_option maxRecDepth 100000 in
theorem m_844 : (.methodLink RL 108 yX13_die : Cond) ∈ jw := jin (jt_9 _ (List.mem_of_getElem? (i := 178) rfl)) rfl
set_option maxRecDepth 100000 in
theorem m_845 : (.instanceMethod yX13_die : Cond) ∈ jw := jin (jt_9 _ (List.mem_of_getElem? (i := 179) rfl)) rfl
set_option maxRecDepth 100000 in
theorem m_846 : (.selects RX13 yX13_die yX13_die : Cond) ∈ jw := jin (jt_9 _ (List.mem_of_getElem? (i := 180) rfl)) rfl
set_option maxRecDepth 100000 in
theorem m_847 : (.code yX13_die cX13_die 4 (some .int) : Cond) ∈ jw := jin (jt_9 _ (List.mem_of_getElem? (i := 181) rfl)) rfl
set_option maxRecDepth 100000 in
theorem m_848 : (.methodLink RL 109 yX12_takers : Cond) ∈ jw := jin (jt_5 _ (List.mem_of_getElem? (i := 177) rfl)) rfl
set_option maxRecDepth 100000 in
theorem m_849 : (.instanceMethod yX12_takers : Cond) ∈ jw := jin (jt_5 _ (List.mem_of_getElem? (i := 178) rfl)) rfl
set_option maxRecDepth 100000 in
theorem m_850 : (.selects RX12 yX12_takers yX12_takers : Cond) ∈ jw := jin (jt_5 _ (List.mem_of_getElem? (i := 179) rfl)) rfl
set_option maxRecDepth 100000 in
theorem m_851 : (.code yX12_takers cX12_takers 5 (some .int) : Cond) ∈ jw := jin (jt_5 _ (List.mem_of_getElem? (i := 180) rfl)) rfl
set_option maxRecDepth 100000 in
theorem m_852 : (.methodLink RL 112 yX13_takers : Cond) ∈ jw := jin (jt_9 _ (List.mem_of_getElem? (i := 186) rfl)) rfl
set_option maxRecDepth 100000 in
theorem m_853 : (.instanceMethod yX13_takers : Cond) ∈ jw := jin (jt_9 _ (List.mem_of_getElem? (i := 187) rfl)) rfl
set_option maxRecDepth 100000 in
theorem m_854 : (.selects RX13 yX13_takers yX13_takers : Cond) ∈ jw := jin (jt_9 _ (List.mem_of_getElem? (i := 188) rfl)) rfl
set_option maxRecDepth 100000 in
theorem m_855 : (.code yX13_takers cX13_takers 4 (some .int) : Cond) ∈ jw := jin (jt_9 _ (List.mem_of_getElem? (i := 189) rfl)) rfl
set_option maxRecDepth 100000 in
theorem m_856 : (.methodLink RL 113 yX12_tell : Cond) ∈ jw := jin (jt_5 _ (List.mem_of_getElem? (i := 185) rfl)) rfl
set_option maxRecDepth 100000 in
theorem m_857 : (.instanceMethod yX12_tell : Cond) ∈ jw := jin (jt_5 _ (List.mem_of_getElem? (i := 186) rfl)) rfl
set_option maxRecDepth 100000 in
theorem m_858 : (.selects RX12 yX12_tell yX12_tell : Cond) ∈ jw := jin (jt_5 _ (List.mem_of_getElem? (i := 187) rfl)) rfl
set_option maxRecDepth 100000 in
theorem m_859 : (.code yX12_tell cX12_tell 5 (some .boolean) : Cond) ∈ jw := jin (jt_5 _ (List.mem_of_getElem? (i := 188) rfl)) rfl
set_option maxRecDepth 100000 in
theorem m_860 : (.methodLink RL 117 yX13_tell : Cond) ∈ jw := jin (jt_9 _ (List.mem_of_getElem? (i := 190) rfl)) rfl
set_option maxRecDepth 100000 in
theorem m_861 : (.instanceMethod yX13_tell : Cond) ∈ jw := jin (jt_9 _ (List.mem_of_getElem? (i := 191) rfl)) rfl
set_option maxRecDepth 100000 in
theorem m_862 : (.selects RX13 yX13_tell yX13_tell : Cond) ∈ jw := jin (jt_9 _ (List.mem_of_getElem? (i := 192) rfl)) rfl
set_option maxRecDepth 100000 in
theorem m_863 : (.code yX13_tell cX13_tell 4 (some .boolean) : Cond) ∈ jw := jin (jt_9 _ (List.mem_of_getElem? (i := 193) rfl)) rfl
set_option maxRecDepth 100000 in
theorem m_864 : (.methodLink RL 118 yX12_known : Cond) ∈ jw := jin (jt_5 _ (List.mem_of_getElem? (i := 193) rfl)) rfl
set_option maxRecDepth 100000 in
theorem m_865 : (.instanceMethod yX12_known : Cond) ∈ jw := jin (jt_5 _ (List.mem_of_getElem? (i := 194) rfl)) rfl
set_option maxRecDepth 100000 in
theorem m_866 : (.selects RX12 yX12_known yX12_known : Cond) ∈ jw := jin (jt_5 _ (List.mem_of_getElem? (i := 195) rfl)) rfl
set_option maxRecDepth 100000 in
theorem m_867 : (.code yX12_known cX12_known 4 (some .int) : Cond) ∈ jw := jin (jt_5 _ (List.mem_of_getElem? (i := 196) rfl)) rfl
set_option maxRecDepth 100000 in
theorem m_868 : (.methodLink RL 121 yX13_known : Cond) ∈ jw := jin (jt_9 _ (List.mem_of_getElem? (i := 194) rfl)) rfl
set_option maxRecDepth 100000 in
theorem m_869 : (.instanceMethod yX13_known : Cond) ∈ jw := jin (jt_9 _ (List.mem_of_getElem? (i := 195) rfl)) rfl
set_option maxRecDepth 100000 in
theorem m_870 : (.selects RX13 yX13_known yX13_known : Cond) ∈ jw := jin (jt_9 _ (List.mem_of_getElem? (i := 196) rfl)) rfl
set_option maxRecDepth 100000 in
theorem m_871 : (.code yX13_known cX13_known 5 (some .int) : Cond) ∈ jw := jin (jt_9 _ (List.mem_of_getElem? (i := 197) rfl)) rfl
set_option maxRecDepth 100000 in
theorem m_872 : (.methodLink RL 122 yX12_stale : Cond) ∈ jw := jin (jt_5 _ (List.mem_of_getElem? (i := 201) rfl)) rfl
set_option maxRecDepth 100000 in
theorem m_873 : (.instanceMethod yX12_stale : Cond) ∈ jw := jin (jt_5 _ (List.mem_of_getElem? (i := 202) rfl)) rfl
set_option maxRecDepth 100000 in
theorem m_874 : (.selects RX12 yX12_stale yX12_stale : Cond) ∈ jw := jin (jt_5 _ (List.mem_of_getElem? (i := 203) rfl)) rfl
set_option maxRecDepth 100000 in
theorem m_875 : (.code yX12_stale cX12_stale 4 (some .boolean) : Cond) ∈ jw := jin (jt_5 _ (List.mem_of_getElem? (i := 204) rfl)) rfl
set_option maxRecDepth 100000 in
theorem m_876 : (.methodLink RL 125 yX13_stale : Cond) ∈ jw := jin (jt_9 _ (List.mem_of_getElem? (i := 198) rfl)) rfl
set_option maxRecDepth 100000 in
theorem m_877 : (.instanceMethod yX13_stale : Cond) ∈ jw := jin (jt_9 _ (List.mem_of_getElem? (i := 199) rfl)) rfl
set_option maxRecDepth 100000 in
theorem m_878 : (.selects RX13 yX13_stale yX13_stale : Cond) ∈ jw := jin (jt_9 _ (List.mem_of_getElem? (i := 200) rfl)) rfl
set_option maxRecDepth 100000 in
theorem m_879 : (.code yX13_stale cX13_stale 3 (some .boolean) : Cond) ∈ jw := jin (jt_9 _ (List.mem_of_getElem? (i := 201) rfl)) rfl
set_option maxRecDepth 100000 in
theorem m_880 : (.methodLink RL 126 yX12_stales : Cond) ∈ jw := jin (jt_5 _ (List.mem_of_getElem? (i := 213) rfl)) rfl
set_option maxRecDepth 100000 in
theorem m_881 : (.instanceMethod yX12_stales : Cond) ∈ jw := jin (jt_5 _ (List.mem_of_getElem? (i := 214) rfl)) rfl
set_option maxRecDepth 100000 in
theorem m_882 : (.selects RX12 yX12_stales yX12_stales : Cond) ∈ jw := jin (jt_5 _ (List.mem_of_getElem? (i := 215) rfl)) rfl
set_option maxRecDepth 100000 in
theorem m_883 : (.code yX12_stales cX12_stales 5 (some .int) : Cond) ∈ jw := jin (jt_5 _ (List.mem_of_getElem? (i := 216) rfl)) rfl
set_option maxRecDepth 100000 in
theorem m_884 : (.methodLink RL 129 yX13_stales : Cond) ∈ jw := jin (jt_9 _ (List.mem_of_getElem? (i := 214) rfl)) rfl
set_option maxRecDepth 100000 in
theorem m_885 : (.instanceMethod yX13_stales : Cond) ∈ jw := jin (jt_9 _ (List.mem_of_getElem? (i := 215) rfl)) rfl
set_option maxRecDepth 100000 in
theorem m_886 : (.selects RX13 yX13_stales yX13_stales : Cond) ∈ jw := jin (jt_9 _ (List.mem_of_getElem? (i := 216) rfl)) rfl
set_option maxRecDepth 100000 in
theorem m_887 : (.code yX13_stales cX13_stales 4 (some .int) : Cond) ∈ jw := jin (jt_9 _ (List.mem_of_getElem? (i := 217) rfl)) rfl
set_option maxRecDepth 100000 in
theorem m_888 : (.methodLink RL 130 yX12_mend : Cond) ∈ jw := jin (jt_5 _ (List.mem_of_getElem? (i := 217) rfl)) rfl
set_option maxRecDepth 100000 in
theorem m_889 : (.instanceMethod yX12_mend : Cond) ∈ jw := jin (jt_5 _ (List.mem_of_getElem? (i := 218) rfl)) rfl
set_option maxRecDepth 100000 in
theorem m_890 : (.selects RX12 yX12_mend yX12_mend : Cond) ∈ jw := jin (jt_5 _ (List.mem_of_getElem? (i := 219) rfl)) rfl
set_option maxRecDepth 100000 in
theorem m_891 : (.code yX12_mend cX12_mend 3 (some .int) : Cond) ∈ jw := jin (jt_5 _ (List.mem_of_getElem? (i := 220) rfl)) rfl
set_option maxRecDepth 100000 in
theorem m_892 : (.methodLink RL 133 yX13_mend : Cond) ∈ jw := jin (jt_9 _ (List.mem_of_getElem? (i := 218) rfl)) rfl
set_option maxRecDepth 100000 in
theorem m_893 : (.instanceMethod yX13_mend : Cond) ∈ jw := jin (jt_9 _ (List.mem_of_getElem? (i := 219) rfl)) rfl
set_option maxRecDepth 100000 in
theorem m_894 : (.selects RX13 yX13_mend yX13_mend : Cond) ∈ jw := jin (jt_9 _ (List.mem_of_getElem? (i := 220) rfl)) rfl
set_option maxRecDepth 100000 in
theorem m_895 : (.code yX13_mend cX13_mend 2 (some .int) : Cond) ∈ jw := jin (jt_9 _ (List.mem_of_getElem? (i := 221) rfl)) rfl
set_option maxRecDepth 100000 in
theorem m_896 : (.methodLink RL 134 yX12_erratum : Cond) ∈ jw := jin (jt_5 _ (List.mem_of_getElem? (i := 225) rfl)) rfl
set_option maxRecDepth 100000 in
theorem m_897 : (.instanceMethod yX12_erratum : Cond) ∈ jw := jin (jt_5 _ (List.mem_of_getElem? (i := 226) rfl)) rfl
set_option maxRecDepth 100000 in
theorem m_898 : (.selects RX12 yX12_erratum yX12_erratum : Cond) ∈ jw := jin (jt_5 _ (List.mem_of_getElem? (i := 227) rfl)) rfl
set_option maxRecDepth 100000 in
theorem m_899 : (.code yX12_erratum cX12_erratum 6 (some .int) : Cond) ∈ jw := jin (jt_5 _ (List.mem_of_getElem? (i := 228) rfl)) rfl
set_option maxRecDepth 100000 in
theorem m_900 : (.methodLink RL 137 yX13_erratum : Cond) ∈ jw := jin (jt_9 _ (List.mem_of_getElem? (i := 226) rfl)) rfl
set_option maxRecDepth 100000 in
theorem m_901 : (.instanceMethod yX13_erratum : Cond) ∈ jw := jin (jt_9 _ (List.mem_of_getElem? (i := 227) rfl)) rfl
set_option maxRecDepth 100000 in
theorem m_902 : (.selects RX13 yX13_erratum yX13_erratum : Cond) ∈ jw := jin (jt_9 _ (List.mem_of_getElem? (i := 228) rfl)) rfl
set_option maxRecDepth 100000 in
theorem m_903 : (.code yX13_erratum cX13_erratum 4 (some .int) : Cond) ∈ jw := jin (jt_9 _ (List.mem_of_getElem? (i := 229) rfl)) rfl
set_option maxRecDepth 100000 in
theorem m_904 : (.methodLink RL 138 yX12_misses : Cond) ∈ jw := jin (jt_5 _ (List.mem_of_getElem? (i := 233) rfl)) rfl
set_option maxRecDepth 100000 in
theorem m_905 : (.instanceMethod yX12_misses : Cond) ∈ jw := jin (jt_5 _ (List.mem_of_getElem? (i := 234) rfl)) rfl
set_option maxRecDepth 100000 in
theorem m_906 : (.selects RX12 yX12_misses yX12_misses : Cond) ∈ jw := jin (jt_5 _ (List.mem_of_getElem? (i := 235) rfl)) rfl
set_option maxRecDepth 100000 in
theorem m_907 : (.code yX12_misses cX12_misses 2 (some .int) : Cond) ∈ jw := jin (jt_5 _ (List.mem_of_getElem? (i := 236) rfl)) rfl
set_option maxRecDepth 100000 in
theorem m_908 : (.methodLink RL 141 yX13_misses : Cond) ∈ jw := jin (jt_9 _ (List.mem_of_getElem? (i := 230) rfl)) rfl
set_option maxRecDepth 100000 in
theorem m_909 : (.instanceMethod yX13_misses : Cond) ∈ jw := jin (jt_9 _ (List.mem_of_getElem? (i := 231) rfl)) rfl
set_option maxRecDepth 100000 in
theorem m_910 : (.selects RX13 yX13_misses yX13_misses : Cond) ∈ jw := jin (jt_9 _ (List.mem_of_getElem? (i := 232) rfl)) rfl
set_option maxRecDepth 100000 in
theorem m_911 : (.code yX13_misses cX13_misses 2 (some .int) : Cond) ∈ jw := jin (jt_9 _ (List.mem_of_getElem? (i := 233) rfl)) rfl
set_option maxRecDepth 100000 in
theorem m_912 : (.methodLink RL 142 yX12_told : Cond) ∈ jw := jin (jt_6 _ (List.mem_of_getElem? (i := 1) rfl)) rfl
set_option maxRecDepth 100000 in
theorem m_913 : (.instanceMethod yX12_told : Cond) ∈ jw := jin (jt_6 _ (List.mem_of_getElem? (i := 2) rfl)) rfl
set_option maxRecDepth 100000 in
theorem m_914 : (.selects RX12 yX12_told yX12_told : Cond) ∈ jw := jin (jt_6 _ (List.mem_of_getElem? (i := 3) rfl)) rfl
set_option maxRecDepth 100000 in
theorem m_915 : (.code yX12_told cX12_told 4 (some .int) : Cond) ∈ jw := jin (jt_6 _ (List.mem_of_getElem? (i := 4) rfl)) rfl
set_option maxRecDepth 100000 in
theorem m_916 : (.methodLink RL 145 yX13_told : Cond) ∈ jw := jin (jt_9 _ (List.mem_of_getElem? (i := 234) rfl)) rfl
set_option maxRecDepth 100000 in
theorem m_917 : (.instanceMethod yX13_told : Cond) ∈ jw := jin (jt_9 _ (List.mem_of_getElem? (i := 235) rfl)) rfl
set_option maxRecDepth 100000 in
theorem m_918 : (.selects RX13 yX13_told yX13_told : Cond) ∈ jw := jin (jt_9 _ (List.mem_of_getElem? (i := 236) rfl)) rfl
set_option maxRecDepth 100000 in
theorem m_919 : (.code yX13_told cX13_told 3 (some .int) : Cond) ∈ jw := jin (jt_9 _ (List.mem_of_getElem? (i := 237) rfl)) rfl
set_option maxRecDepth 100000 in
theorem m_920 : (.methodLink RL 146 yX12_set : Cond) ∈ jw := jin (jt_6 _ (List.mem_of_getElem? (i := 9) rfl)) rfl
set_option maxRecDepth 100000 in
theorem m_921 : (.instanceMethod yX12_set : Cond) ∈ jw := jin (jt_6 _ (List.mem_of_getElem? (i := 10) rfl)) rfl
set_option maxRecDepth 100000 in
theorem m_922 : (.selects RX12 yX12_set yX12_set : Cond) ∈ jw := jin (jt_6 _ (List.mem_of_getElem? (i := 11) rfl)) rfl
set_option maxRecDepth 100000 in
theorem m_923 : (.code yX12_set cX12_set 3 (some .int) : Cond) ∈ jw := jin (jt_6 _ (List.mem_of_getElem? (i := 12) rfl)) rfl
set_option maxRecDepth 100000 in
theorem m_924 : (.methodLink RL 149 yX13_set : Cond) ∈ jw := jin (jt_9 _ (List.mem_of_getElem? (i := 238) rfl)) rfl
set_option maxRecDepth 100000 in
theorem m_925 : (.instanceMethod yX13_set : Cond) ∈ jw := jin (jt_9 _ (List.mem_of_getElem? (i := 239) rfl)) rfl
set_option maxRecDepth 100000 in
theorem m_926 : (.selects RX13 yX13_set yX13_set : Cond) ∈ jw := jin (jt_10 _ (List.mem_of_getElem? (i := 0) rfl)) rfl
set_option maxRecDepth 100000 in
theorem m_927 : (.code yX13_set cX13_set 8 (some .int) : Cond) ∈ jw := jin (jt_10 _ (List.mem_of_getElem? (i := 1) rfl)) rfl
set_option maxRecDepth 100000 in
theorem m_928 : (.methodLink RL 150 yX12_page : Cond) ∈ jw := jin (jt_6 _ (List.mem_of_getElem? (i := 42) rfl)) rfl
set_option maxRecDepth 100000 in
theorem m_929 : (.instanceMethod yX12_page : Cond) ∈ jw := jin (jt_6 _ (List.mem_of_getElem? (i := 43) rfl)) rfl
set_option maxRecDepth 100000 in
theorem m_930 : (.selects RX12 yX12_page yX12_page : Cond) ∈ jw := jin (jt_6 _ (List.mem_of_getElem? (i := 44) rfl)) rfl
set_option maxRecDepth 100000 in
theorem m_931 : (.code yX12_page cX12_page 3 (some .int) : Cond) ∈ jw := jin (jt_6 _ (List.mem_of_getElem? (i := 45) rfl)) rfl
set_option maxRecDepth 100000 in
theorem m_932 : (.methodLink RL 153 yX13_page : Cond) ∈ jw := jin (jt_10 _ (List.mem_of_getElem? (i := 6) rfl)) rfl
set_option maxRecDepth 100000 in
theorem m_933 : (.instanceMethod yX13_page : Cond) ∈ jw := jin (jt_10 _ (List.mem_of_getElem? (i := 7) rfl)) rfl
set_option maxRecDepth 100000 in
theorem m_934 : (.selects RX13 yX13_page yX13_page : Cond) ∈ jw := jin (jt_10 _ (List.mem_of_getElem? (i := 8) rfl)) rfl
set_option maxRecDepth 100000 in
theorem m_935 : (.code yX13_page cX13_page 2 (some .int) : Cond) ∈ jw := jin (jt_10 _ (List.mem_of_getElem? (i := 9) rfl)) rfl
set_option maxRecDepth 100000 in
theorem m_936 : (.methodLink RL 154 yX12_promise : Cond) ∈ jw := jin (jt_6 _ (List.mem_of_getElem? (i := 46) rfl)) rfl
set_option maxRecDepth 100000 in
theorem m_937 : (.instanceMethod yX12_promise : Cond) ∈ jw := jin (jt_6 _ (List.mem_of_getElem? (i := 47) rfl)) rfl
set_option maxRecDepth 100000 in
theorem m_938 : (.selects RX12 yX12_promise yX12_promise : Cond) ∈ jw := jin (jt_6 _ (List.mem_of_getElem? (i := 48) rfl)) rfl
set_option maxRecDepth 100000 in
theorem m_939 : (.code yX12_promise cX12_promise 4 (some .int) : Cond) ∈ jw := jin (jt_6 _ (List.mem_of_getElem? (i := 49) rfl)) rfl
set_option maxRecDepth 100000 in
theorem m_940 : (.methodLink RL 157 yX13_promise : Cond) ∈ jw := jin (jt_10 _ (List.mem_of_getElem? (i := 18) rfl)) rfl
set_option maxRecDepth 100000 in
theorem m_941 : (.instanceMethod yX13_promise : Cond) ∈ jw := jin (jt_10 _ (List.mem_of_getElem? (i := 19) rfl)) rfl
set_option maxRecDepth 100000 in
theorem m_942 : (.selects RX13 yX13_promise yX13_promise : Cond) ∈ jw := jin (jt_10 _ (List.mem_of_getElem? (i := 20) rfl)) rfl
set_option maxRecDepth 100000 in
theorem m_943 : (.code yX13_promise cX13_promise 4 (some .int) : Cond) ∈ jw := jin (jt_10 _ (List.mem_of_getElem? (i := 21) rfl)) rfl
set_option maxRecDepth 100000 in
theorem m_944 : (.methodLink RL 158 yX12_ends : Cond) ∈ jw := jin (jt_6 _ (List.mem_of_getElem? (i := 62) rfl)) rfl
set_option maxRecDepth 100000 in
theorem m_945 : (.instanceMethod yX12_ends : Cond) ∈ jw := jin (jt_6 _ (List.mem_of_getElem? (i := 63) rfl)) rfl
set_option maxRecDepth 100000 in
theorem m_946 : (.selects RX12 yX12_ends yX12_ends : Cond) ∈ jw := jin (jt_6 _ (List.mem_of_getElem? (i := 64) rfl)) rfl
set_option maxRecDepth 100000 in
theorem m_947 : (.code yX12_ends cX12_ends 4 (some .int) : Cond) ∈ jw := jin (jt_6 _ (List.mem_of_getElem? (i := 65) rfl)) rfl
set_option maxRecDepth 100000 in
theorem m_948 : (.methodLink RL 161 yX13_ends : Cond) ∈ jw := jin (jt_10 _ (List.mem_of_getElem? (i := 10) rfl)) rfl
set_option maxRecDepth 100000 in
theorem m_949 : (.instanceMethod yX13_ends : Cond) ∈ jw := jin (jt_10 _ (List.mem_of_getElem? (i := 11) rfl)) rfl
set_option maxRecDepth 100000 in
theorem m_950 : (.selects RX13 yX13_ends yX13_ends : Cond) ∈ jw := jin (jt_10 _ (List.mem_of_getElem? (i := 12) rfl)) rfl
set_option maxRecDepth 100000 in
theorem m_951 : (.code yX13_ends cX13_ends 2 (some .int) : Cond) ∈ jw := jin (jt_10 _ (List.mem_of_getElem? (i := 13) rfl)) rfl
set_option maxRecDepth 100000 in
theorem m_952 : (.methodLink RL 162 yX12_promised : Cond) ∈ jw := jin (jt_6 _ (List.mem_of_getElem? (i := 66) rfl)) rfl
set_option maxRecDepth 100000 in
theorem m_953 : (.instanceMethod yX12_promised : Cond) ∈ jw := jin (jt_6 _ (List.mem_of_getElem? (i := 67) rfl)) rfl
set_option maxRecDepth 100000 in
theorem m_954 : (.selects RX12 yX12_promised yX12_promised : Cond) ∈ jw := jin (jt_6 _ (List.mem_of_getElem? (i := 68) rfl)) rfl
set_option maxRecDepth 100000 in
theorem m_955 : (.code yX12_promised cX12_promised 6 (some .int) : Cond) ∈ jw := jin (jt_6 _ (List.mem_of_getElem? (i := 69) rfl)) rfl
set_option maxRecDepth 100000 in
theorem m_956 : (.methodLink RL 165 yX13_promised : Cond) ∈ jw := jin (jt_10 _ (List.mem_of_getElem? (i := 26) rfl)) rfl
set_option maxRecDepth 100000 in
theorem m_957 : (.instanceMethod yX13_promised : Cond) ∈ jw := jin (jt_10 _ (List.mem_of_getElem? (i := 27) rfl)) rfl
set_option maxRecDepth 100000 in
theorem m_958 : (.selects RX13 yX13_promised yX13_promised : Cond) ∈ jw := jin (jt_10 _ (List.mem_of_getElem? (i := 28) rfl)) rfl
set_option maxRecDepth 100000 in
theorem m_959 : (.code yX13_promised cX13_promised 5 (some .int) : Cond) ∈ jw := jin (jt_10 _ (List.mem_of_getElem? (i := 29) rfl)) rfl
set_option maxRecDepth 100000 in
theorem m_960 : (.methodLink RL 166 yX12_subscribe : Cond) ∈ jw := jin (jt_6 _ (List.mem_of_getElem? (i := 70) rfl)) rfl
set_option maxRecDepth 100000 in
theorem m_961 : (.instanceMethod yX12_subscribe : Cond) ∈ jw := jin (jt_6 _ (List.mem_of_getElem? (i := 71) rfl)) rfl
set_option maxRecDepth 100000 in
theorem m_962 : (.selects RX12 yX12_subscribe yX12_subscribe : Cond) ∈ jw := jin (jt_6 _ (List.mem_of_getElem? (i := 72) rfl)) rfl
set_option maxRecDepth 100000 in
theorem m_963 : (.code yX12_subscribe cX12_subscribe 4 (some .boolean) : Cond) ∈ jw := jin (jt_6 _ (List.mem_of_getElem? (i := 73) rfl)) rfl
set_option maxRecDepth 100000 in
theorem m_964 : (.methodLink RL 169 yX13_subscribe : Cond) ∈ jw := jin (jt_10 _ (List.mem_of_getElem? (i := 30) rfl)) rfl
set_option maxRecDepth 100000 in
theorem m_965 : (.instanceMethod yX13_subscribe : Cond) ∈ jw := jin (jt_10 _ (List.mem_of_getElem? (i := 31) rfl)) rfl
set_option maxRecDepth 100000 in
theorem m_966 : (.selects RX13 yX13_subscribe yX13_subscribe : Cond) ∈ jw := jin (jt_10 _ (List.mem_of_getElem? (i := 32) rfl)) rfl
set_option maxRecDepth 100000 in
theorem m_967 : (.code yX13_subscribe cX13_subscribe 4 (some .boolean) : Cond) ∈ jw := jin (jt_10 _ (List.mem_of_getElem? (i := 33) rfl)) rfl
set_option maxRecDepth 100000 in
theorem m_968 : (.methodLink RL 170 yX12_owed : Cond) ∈ jw := jin (jt_6 _ (List.mem_of_getElem? (i := 78) rfl)) rfl
set_option maxRecDepth 100000 in
theorem m_969 : (.instanceMethod yX12_owed : Cond) ∈ jw := jin (jt_6 _ (List.mem_of_getElem? (i := 79) rfl)) rfl
set_option maxRecDepth 100000 in
theorem m_970 : (.selects RX12 yX12_owed yX12_owed : Cond) ∈ jw := jin (jt_6 _ (List.mem_of_getElem? (i := 80) rfl)) rfl
set_option maxRecDepth 100000 in
theorem m_971 : (.code yX12_owed cX12_owed 5 (some .int) : Cond) ∈ jw := jin (jt_6 _ (List.mem_of_getElem? (i := 81) rfl)) rfl
set_option maxRecDepth 100000 in
theorem m_972 : (.methodLink RL 173 yX13_owed : Cond) ∈ jw := jin (jt_10 _ (List.mem_of_getElem? (i := 34) rfl)) rfl
set_option maxRecDepth 100000 in
theorem m_973 : (.instanceMethod yX13_owed : Cond) ∈ jw := jin (jt_10 _ (List.mem_of_getElem? (i := 35) rfl)) rfl
set_option maxRecDepth 100000 in
theorem m_974 : (.selects RX13 yX13_owed yX13_owed : Cond) ∈ jw := jin (jt_10 _ (List.mem_of_getElem? (i := 36) rfl)) rfl
set_option maxRecDepth 100000 in
theorem m_975 : (.code yX13_owed cX13_owed 4 (some .int) : Cond) ∈ jw := jin (jt_10 _ (List.mem_of_getElem? (i := 37) rfl)) rfl
set_option maxRecDepth 100000 in
theorem m_976 : (.methodLink RL 174 yX12_lengths : Cond) ∈ jw := jin (jt_6 _ (List.mem_of_getElem? (i := 91) rfl)) rfl
set_option maxRecDepth 100000 in
theorem m_977 : (.instanceMethod yX12_lengths : Cond) ∈ jw := jin (jt_6 _ (List.mem_of_getElem? (i := 92) rfl)) rfl
set_option maxRecDepth 100000 in
theorem m_978 : (.selects RX12 yX12_lengths yX12_lengths : Cond) ∈ jw := jin (jt_6 _ (List.mem_of_getElem? (i := 93) rfl)) rfl
set_option maxRecDepth 100000 in
theorem m_979 : (.code yX12_lengths cX12_lengths 3 (some .int) : Cond) ∈ jw := jin (jt_6 _ (List.mem_of_getElem? (i := 94) rfl)) rfl
set_option maxRecDepth 100000 in
theorem m_980 : (.methodLink RL 177 yX13_lengths : Cond) ∈ jw := jin (jt_10 _ (List.mem_of_getElem? (i := 38) rfl)) rfl
set_option maxRecDepth 100000 in
theorem m_981 : (.instanceMethod yX13_lengths : Cond) ∈ jw := jin (jt_10 _ (List.mem_of_getElem? (i := 39) rfl)) rfl
set_option maxRecDepth 100000 in
theorem m_982 : (.selects RX13 yX13_lengths yX13_lengths : Cond) ∈ jw := jin (jt_10 _ (List.mem_of_getElem? (i := 40) rfl)) rfl
set_option maxRecDepth 100000 in
theorem m_983 : (.code yX13_lengths cX13_lengths 3 (some .int) : Cond) ∈ jw := jin (jt_10 _ (List.mem_of_getElem? (i := 41) rfl)) rfl
set_option maxRecDepth 100000 in
theorem m_984 : (.methodLink RL 178 yX12_length : Cond) ∈ jw := jin (jt_6 _ (List.mem_of_getElem? (i := 136) rfl)) rfl
set_option maxRecDepth 100000 in
theorem m_985 : (.instanceMethod yX12_length : Cond) ∈ jw := jin (jt_6 _ (List.mem_of_getElem? (i := 137) rfl)) rfl
set_option maxRecDepth 100000 in
theorem m_986 : (.selects RX12 yX12_length yX12_length : Cond) ∈ jw := jin (jt_6 _ (List.mem_of_getElem? (i := 138) rfl)) rfl
set_option maxRecDepth 100000 in
theorem m_987 : (.code yX12_length cX12_length 4 (some .int) : Cond) ∈ jw := jin (jt_6 _ (List.mem_of_getElem? (i := 139) rfl)) rfl
set_option maxRecDepth 100000 in
theorem m_988 : (.methodLink RL 181 yX13_length : Cond) ∈ jw := jin (jt_10 _ (List.mem_of_getElem? (i := 49) rfl)) rfl
set_option maxRecDepth 100000 in
theorem m_989 : (.instanceMethod yX13_length : Cond) ∈ jw := jin (jt_10 _ (List.mem_of_getElem? (i := 50) rfl)) rfl
set_option maxRecDepth 100000 in
theorem m_990 : (.selects RX13 yX13_length yX13_length : Cond) ∈ jw := jin (jt_10 _ (List.mem_of_getElem? (i := 51) rfl)) rfl
set_option maxRecDepth 100000 in
theorem m_991 : (.code yX13_length cX13_length 3 (some .int) : Cond) ∈ jw := jin (jt_10 _ (List.mem_of_getElem? (i := 52) rfl)) rfl
set_option maxRecDepth 100000 in
theorem m_992 : (.methodLink RL 182 yX12_giving : Cond) ∈ jw := jin (jt_6 _ (List.mem_of_getElem? (i := 144) rfl)) rfl
set_option maxRecDepth 100000 in
theorem m_993 : (.instanceMethod yX12_giving : Cond) ∈ jw := jin (jt_6 _ (List.mem_of_getElem? (i := 145) rfl)) rfl
set_option maxRecDepth 100000 in
theorem m_994 : (.selects RX12 yX12_giving yX12_giving : Cond) ∈ jw := jin (jt_6 _ (List.mem_of_getElem? (i := 146) rfl)) rfl
set_option maxRecDepth 100000 in
theorem m_995 : (.code yX12_giving cX12_giving 4 (some .int) : Cond) ∈ jw := jin (jt_6 _ (List.mem_of_getElem? (i := 147) rfl)) rfl
set_option maxRecDepth 100000 in
theorem m_996 : (.methodLink RL 185 yX13_giving : Cond) ∈ jw := jin (jt_10 _ (List.mem_of_getElem? (i := 53) rfl)) rfl
set_option maxRecDepth 100000 in
theorem m_997 : (.instanceMethod yX13_giving : Cond) ∈ jw := jin (jt_10 _ (List.mem_of_getElem? (i := 54) rfl)) rfl
set_option maxRecDepth 100000 in
theorem m_998 : (.selects RX13 yX13_giving yX13_giving : Cond) ∈ jw := jin (jt_10 _ (List.mem_of_getElem? (i := 55) rfl)) rfl
set_option maxRecDepth 100000 in
theorem m_999 : (.code yX13_giving cX13_giving 4 (some .int) : Cond) ∈ jw := jin (jt_10 _ (List.mem_of_getElem? (i := 56) rfl)) rfl
set_option maxRecDepth 100000 in
theorem m_1000 : (.methodLink RL 186 yX12_given : Cond) ∈ jw := jin (jt_6 _ (List.mem_of_getElem? (i := 214) rfl)) rfl
set_option maxRecDepth 100000 in
theorem m_1001 : (.instanceMethod yX12_given : Cond) ∈ jw := jin (jt_6 _ (List.mem_of_getElem? (i := 215) rfl)) rfl
set_option maxRecDepth 100000 in
theorem m_1002 : (.selects RX12 yX12_given yX12_given : Cond) ∈ jw := jin (jt_6 _ (List.mem_of_getElem? (i := 216) rfl)) rfl
set_option maxRecDepth 100000 in
theorem m_1003 : (.code yX12_given cX12_given 6 (some .int) : Cond) ∈ jw := jin (jt_6 _ (List.mem_of_getElem? (i := 217) rfl)) rfl
set_option maxRecDepth 100000 in
theorem m_1004 : (.methodLink RL 189 yX13_given : Cond) ∈ jw := jin (jt_10 _ (List.mem_of_getElem? (i := 66) rfl)) rfl
set_option maxRecDepth 100000 in
theorem m_1005 : (.instanceMethod yX13_given : Cond) ∈ jw := jin (jt_10 _ (List.mem_of_getElem? (i := 67) rfl)) rfl
set_option maxRecDepth 100000 in
theorem m_1006 : (.selects RX13 yX13_given yX13_given : Cond) ∈ jw := jin (jt_10 _ (List.mem_of_getElem? (i := 68) rfl)) rfl
set_option maxRecDepth 100000 in
theorem m_1007 : (.code yX13_given cX13_given 7 (some .int) : Cond) ∈ jw := jin (jt_10 _ (List.mem_of_getElem? (i := 69) rfl)) rfl
set_option maxRecDepth 100000 in
theorem m_1008 : (.methodLink RL 190 yX12_index : Cond) ∈ jw := jin (jt_6 _ (List.mem_of_getElem? (i := 223) rfl)) rfl
set_option maxRecDepth 100000 in
theorem m_1009 : (.instanceMethod yX12_index : Cond) ∈ jw := jin (jt_6 _ (List.mem_of_getElem? (i := 224) rfl)) rfl
set_option maxRecDepth 100000 in
theorem m_1010 : (.selects RX12 yX12_index yX12_index : Cond) ∈ jw := jin (jt_6 _ (List.mem_of_getElem? (i := 225) rfl)) rfl
set_option maxRecDepth 100000 in
theorem m_1011 : (.code yX12_index cX12_index 9 (some .int) : Cond) ∈ jw := jin (jt_6 _ (List.mem_of_getElem? (i := 226) rfl)) rfl
set_option maxRecDepth 100000 in
theorem m_1012 : (.methodLink RL 193 yX13_index : Cond) ∈ jw := jin (jt_10 _ (List.mem_of_getElem? (i := 70) rfl)) rfl
set_option maxRecDepth 100000 in
theorem m_1013 : (.instanceMethod yX13_index : Cond) ∈ jw := jin (jt_10 _ (List.mem_of_getElem? (i := 71) rfl)) rfl
set_option maxRecDepth 100000 in
theorem m_1014 : (.selects RX13 yX13_index yX13_index : Cond) ∈ jw := jin (jt_10 _ (List.mem_of_getElem? (i := 72) rfl)) rfl
set_option maxRecDepth 100000 in
theorem m_1015 : (.code yX13_index cX13_index 9 (some .int) : Cond) ∈ jw := jin (jt_10 _ (List.mem_of_getElem? (i := 73) rfl)) rfl
set_option maxRecDepth 100000 in
theorem m_1016 : (.methodLink RL 194 yX12_steal : Cond) ∈ jw := jin (jt_6 _ (List.mem_of_getElem? (i := 231) rfl)) rfl
set_option maxRecDepth 100000 in
theorem m_1017 : (.instanceMethod yX12_steal : Cond) ∈ jw := jin (jt_6 _ (List.mem_of_getElem? (i := 232) rfl)) rfl
set_option maxRecDepth 100000 in
theorem m_1018 : (.selects RX12 yX12_steal yX12_steal : Cond) ∈ jw := jin (jt_6 _ (List.mem_of_getElem? (i := 233) rfl)) rfl
set_option maxRecDepth 100000 in
theorem m_1019 : (.code yX12_steal cX12_steal 2 (some .int) : Cond) ∈ jw := jin (jt_6 _ (List.mem_of_getElem? (i := 234) rfl)) rfl
set_option maxRecDepth 100000 in
theorem m_1020 : (.methodLink RL 197 yX13_steal : Cond) ∈ jw := jin (jt_10 _ (List.mem_of_getElem? (i := 74) rfl)) rfl
set_option maxRecDepth 100000 in
theorem m_1021 : (.instanceMethod yX13_steal : Cond) ∈ jw := jin (jt_10 _ (List.mem_of_getElem? (i := 75) rfl)) rfl
set_option maxRecDepth 100000 in
theorem m_1022 : (.selects RX13 yX13_steal yX13_steal : Cond) ∈ jw := jin (jt_10 _ (List.mem_of_getElem? (i := 76) rfl)) rfl
set_option maxRecDepth 100000 in
theorem m_1023 : (.code yX13_steal cX13_steal 2 (some .int) : Cond) ∈ jw := jin (jt_10 _ (List.mem_of_getElem? (i := 77) rfl)) rfl
set_option maxRecDepth 100000 in
theorem m_1024 : (.methodLink RL 198 yX12_forget : Cond) ∈ jw := jin (jt_6 _ (List.mem_of_getElem? (i := 239) rfl)) rfl
set_option maxRecDepth 100000 in
theorem m_1025 : (.instanceMethod yX12_forget : Cond) ∈ jw := jin (jt_7 _ (List.mem_of_getElem? (i := 0) rfl)) rfl
set_option maxRecDepth 100000 in
theorem m_1026 : (.selects RX12 yX12_forget yX12_forget : Cond) ∈ jw := jin (jt_7 _ (List.mem_of_getElem? (i := 1) rfl)) rfl
set_option maxRecDepth 100000 in
theorem m_1027 : (.code yX12_forget cX12_forget 2 (some .int) : Cond) ∈ jw := jin (jt_7 _ (List.mem_of_getElem? (i := 2) rfl)) rfl
set_option maxRecDepth 100000 in
theorem m_1028 : (.methodLink RL 201 yX13_forget : Cond) ∈ jw := jin (jt_10 _ (List.mem_of_getElem? (i := 78) rfl)) rfl
set_option maxRecDepth 100000 in
theorem m_1029 : (.instanceMethod yX13_forget : Cond) ∈ jw := jin (jt_10 _ (List.mem_of_getElem? (i := 79) rfl)) rfl
set_option maxRecDepth 100000 in
theorem m_1030 : (.selects RX13 yX13_forget yX13_forget : Cond) ∈ jw := jin (jt_10 _ (List.mem_of_getElem? (i := 80) rfl)) rfl
set_option maxRecDepth 100000 in
theorem m_1031 : (.code yX13_forget cX13_forget 2 (some .int) : Cond) ∈ jw := jin (jt_10 _ (List.mem_of_getElem? (i := 81) rfl)) rfl
set_option maxRecDepth 100000 in
theorem m_1032 : (.methodLink RL 202 yX12_thief : Cond) ∈ jw := jin (jt_7 _ (List.mem_of_getElem? (i := 3) rfl)) rfl
set_option maxRecDepth 100000 in
theorem m_1033 : (.instanceMethod yX12_thief : Cond) ∈ jw := jin (jt_7 _ (List.mem_of_getElem? (i := 4) rfl)) rfl
set_option maxRecDepth 100000 in
theorem m_1034 : (.selects RX12 yX12_thief yX12_thief : Cond) ∈ jw := jin (jt_7 _ (List.mem_of_getElem? (i := 5) rfl)) rfl
set_option maxRecDepth 100000 in
theorem m_1035 : (.code yX12_thief cX12_thief 6 (some .int) : Cond) ∈ jw := jin (jt_7 _ (List.mem_of_getElem? (i := 6) rfl)) rfl
set_option maxRecDepth 100000 in
theorem m_1036 : (.methodLink RL 205 yX13_thief : Cond) ∈ jw := jin (jt_10 _ (List.mem_of_getElem? (i := 82) rfl)) rfl
set_option maxRecDepth 100000 in
theorem m_1037 : (.instanceMethod yX13_thief : Cond) ∈ jw := jin (jt_10 _ (List.mem_of_getElem? (i := 83) rfl)) rfl
set_option maxRecDepth 100000 in
theorem m_1038 : (.selects RX13 yX13_thief yX13_thief : Cond) ∈ jw := jin (jt_10 _ (List.mem_of_getElem? (i := 84) rfl)) rfl
set_option maxRecDepth 100000 in
theorem m_1039 : (.code yX13_thief cX13_thief 8 (some .int) : Cond) ∈ jw := jin (jt_10 _ (List.mem_of_getElem? (i := 85) rfl)) rfl
set_option maxRecDepth 100000 in
theorem m_1040 : (.methodLink RL 206 yX12_is : Cond) ∈ jw := jin (jt_7 _ (List.mem_of_getElem? (i := 29) rfl)) rfl
set_option maxRecDepth 100000 in
theorem m_1041 : (.instanceMethod yX12_is : Cond) ∈ jw := jin (jt_7 _ (List.mem_of_getElem? (i := 30) rfl)) rfl
set_option maxRecDepth 100000 in
theorem m_1042 : (.selects RX12 yX12_is yX12_is : Cond) ∈ jw := jin (jt_7 _ (List.mem_of_getElem? (i := 31) rfl)) rfl
set_option maxRecDepth 100000 in
theorem m_1043 : (.code yX12_is cX12_is 4 (some .int) : Cond) ∈ jw := jin (jt_7 _ (List.mem_of_getElem? (i := 32) rfl)) rfl
set_option maxRecDepth 100000 in
theorem m_1044 : (.methodLink RL 209 yX13_is : Cond) ∈ jw := jin (jt_10 _ (List.mem_of_getElem? (i := 94) rfl)) rfl
set_option maxRecDepth 100000 in
theorem m_1045 : (.instanceMethod yX13_is : Cond) ∈ jw := jin (jt_10 _ (List.mem_of_getElem? (i := 95) rfl)) rfl
set_option maxRecDepth 100000 in
theorem m_1046 : (.selects RX13 yX13_is yX13_is : Cond) ∈ jw := jin (jt_10 _ (List.mem_of_getElem? (i := 96) rfl)) rfl
set_option maxRecDepth 100000 in
theorem m_1047 : (.code yX13_is cX13_is 5 (some .int) : Cond) ∈ jw := jin (jt_10 _ (List.mem_of_getElem? (i := 97) rfl)) rfl
set_option maxRecDepth 100000 in
theorem m_1048 : (.methodLink RL 210 yX12_count : Cond) ∈ jw := jin (jt_7 _ (List.mem_of_getElem? (i := 37) rfl)) rfl
set_option maxRecDepth 100000 in
theorem m_1049 : (.instanceMethod yX12_count : Cond) ∈ jw := jin (jt_7 _ (List.mem_of_getElem? (i := 38) rfl)) rfl
set_option maxRecDepth 100000 in
theorem m_1050 : (.selects RX12 yX12_count yX12_count : Cond) ∈ jw := jin (jt_7 _ (List.mem_of_getElem? (i := 39) rfl)) rfl
set_option maxRecDepth 100000 in
theorem m_1051 : (.code yX12_count cX12_count 2 (some .int) : Cond) ∈ jw := jin (jt_7 _ (List.mem_of_getElem? (i := 40) rfl)) rfl
set_option maxRecDepth 100000 in
theorem m_1052 : (.methodLink RL 213 yX13_count : Cond) ∈ jw := jin (jt_10 _ (List.mem_of_getElem? (i := 98) rfl)) rfl
set_option maxRecDepth 100000 in
theorem m_1053 : (.instanceMethod yX13_count : Cond) ∈ jw := jin (jt_10 _ (List.mem_of_getElem? (i := 99) rfl)) rfl
set_option maxRecDepth 100000 in
theorem m_1054 : (.selects RX13 yX13_count yX13_count : Cond) ∈ jw := jin (jt_10 _ (List.mem_of_getElem? (i := 100) rfl)) rfl
set_option maxRecDepth 100000 in
theorem m_1055 : (.code yX13_count cX13_count 4 (some .int) : Cond) ∈ jw := jin (jt_10 _ (List.mem_of_getElem? (i := 101) rfl)) rfl
set_option maxRecDepth 100000 in
theorem m_1056 : (.classLink RL 7 RX12 : Cond) ∈ jw := jin (jt_1 _ (List.mem_of_getElem? (i := 25) rfl)) rfl
set_option maxRecDepth 100000 in
theorem m_1057 : (.code yX12_init cX12_init 2 none : Cond) ∈ jw := jin (jt_1 _ (List.mem_of_getElem? (i := 29) rfl)) rfl
set_option maxRecDepth 100000 in
theorem m_1058 : (.methodLink RL 9 yX12_init : Cond) ∈ jw := jin (jt_1 _ (List.mem_of_getElem? (i := 27) rfl)) rfl
set_option maxRecDepth 100000 in
theorem m_1059 : (.instanceMethod yX12_init : Cond) ∈ jw := jin (jt_1 _ (List.mem_of_getElem? (i := 28) rfl)) rfl
set_option maxRecDepth 100000 in
theorem m_1060 : (.classLink RL 10 RX13 : Cond) ∈ jw := jin (jt_7 _ (List.mem_of_getElem? (i := 49) rfl)) rfl
set_option maxRecDepth 100000 in
theorem m_1061 : (.code yX13_init cX13_init 1 none : Cond) ∈ jw := jin (jt_7 _ (List.mem_of_getElem? (i := 53) rfl)) rfl
set_option maxRecDepth 100000 in
theorem m_1062 : (.methodLink RL 12 yX13_init : Cond) ∈ jw := jin (jt_7 _ (List.mem_of_getElem? (i := 51) rfl)) rfl
set_option maxRecDepth 100000 in
theorem m_1063 : (.instanceMethod yX13_init : Cond) ∈ jw := jin (jt_7 _ (List.mem_of_getElem? (i := 52) rfl)) rfl
set_option maxRecDepth 100000 in
theorem n_0 : (.arrayOver (.object RX9) : Cond) ∈ lw_tbl := jt_1 _ (List.mem_of_getElem? (i := 96) rfl)
set_option maxRecDepth 100000 in
theorem n_1 : (.arrayOver (.object RX11) : Cond) ∈ lw_tbl := jt_1 _ (List.mem_of_getElem? (i := 150) rfl)
set_option maxRecDepth 100000 in
theorem n_2 : (.arrayOver (.object RX0) : Cond) ∈ lw_tbl := jt_1 _ (List.mem_of_getElem? (i := 187) rfl)
set_option maxRecDepth 100000 in
theorem n_3 : (.arrayOver (.object RX2) : Cond) ∈ lw_tbl := jt_1 _ (List.mem_of_getElem? (i := 189) rfl)
set_option maxRecDepth 100000 in
theorem n_4 : (.arrayOver (.object RX4) : Cond) ∈ lw_tbl := jt_1 _ (List.mem_of_getElem? (i := 191) rfl)
set_option maxRecDepth 100000 in
theorem n_5 : (.methodLinkNest RX12 9 yX7_init RX12 : Cond) ∈ lw_tbl := jt_1 _ (List.mem_of_getElem? (i := 35) rfl)
set_option maxRecDepth 100000 in
theorem n_6 : (.methodLinkNest RX12 18 yX8_init RX12 : Cond) ∈ lw_tbl := jt_1 _ (List.mem_of_getElem? (i := 91) rfl)
set_option maxRecDepth 100000 in
theorem n_7 : (.methodLinkNest RX12 84 yX3_init RX12 : Cond) ∈ lw_tbl := jt_2 _ (List.mem_of_getElem? (i := 3) rfl)
set_option maxRecDepth 100000 in
theorem n_8 : (.methodLinkNest RX12 91 yX1_init RX12 : Cond) ∈ lw_tbl := jt_2 _ (List.mem_of_getElem? (i := 32) rfl)
set_option maxRecDepth 100000 in
theorem n_9 : (.methodLinkNest RX12 98 yX10_init RX12 : Cond) ∈ lw_tbl := jt_2 _ (List.mem_of_getElem? (i := 70) rfl)
set_option maxRecDepth 100000 in
theorem n_10 : (.methodLinkNest RX7 75 yX9_init RX12 : Cond) ∈ lw_tbl := jt_3 _ (List.mem_of_getElem? (i := 162) rfl)
set_option maxRecDepth 100000 in
theorem n_11 : (.castable "[I" "java/lang/Cloneable" : Cond) ∈ lw_tbl := jt_3 _ (List.mem_of_getElem? (i := 193) rfl)
set_option maxRecDepth 100000 in
theorem n_12 : (.laysStatic "BookOfAll$Rules" "WITHOUT" "[I" : Cond) ∈ lw_tbl := jt_4 _ (List.mem_of_getElem? (i := 2) rfl)
set_option maxRecDepth 100000 in
theorem n_13 : (.instantiable RX0 18 : Cond) ∈ lw_tbl := jt_4 _ (List.mem_of_getElem? (i := 98) rfl)
set_option maxRecDepth 100000 in
theorem n_14 : (.instantiable RX1 10 : Cond) ∈ lw_tbl := jt_2 _ (List.mem_of_getElem? (i := 31) rfl)
set_option maxRecDepth 100000 in
theorem n_15 : (.instantiable RX2 6 : Cond) ∈ lw_tbl := jt_5 _ (List.mem_of_getElem? (i := 20) rfl)
set_option maxRecDepth 100000 in
theorem n_16 : (.instantiable RX3 7 : Cond) ∈ lw_tbl := jt_2 _ (List.mem_of_getElem? (i := 2) rfl)
set_option maxRecDepth 100000 in
theorem n_17 : (.instantiable RX4 9 : Cond) ∈ lw_tbl := jt_5 _ (List.mem_of_getElem? (i := 127) rfl)
set_option maxRecDepth 100000 in
theorem n_18 : (.instantiable RX5 12 : Cond) ∈ lw_tbl := jt_1 _ (List.mem_of_getElem? (i := 193) rfl)
set_option maxRecDepth 100000 in
theorem n_19 : (.instantiable RX6 6 : Cond) ∈ lw_tbl := jt_1 _ (List.mem_of_getElem? (i := 124) rfl)
set_option maxRecDepth 100000 in
theorem n_20 : (.instantiable RX7 15 : Cond) ∈ lw_tbl := jt_1 _ (List.mem_of_getElem? (i := 34) rfl)
set_option maxRecDepth 100000 in
theorem n_21 : (.instantiable RX8 8 : Cond) ∈ lw_tbl := jt_1 _ (List.mem_of_getElem? (i := 90) rfl)
set_option maxRecDepth 100000 in
theorem n_22 : (.instantiable RX9 4 : Cond) ∈ lw_tbl := jt_3 _ (List.mem_of_getElem? (i := 161) rfl)
set_option maxRecDepth 100000 in
theorem n_23 : (.instantiable RX10 3 : Cond) ∈ lw_tbl := jt_2 _ (List.mem_of_getElem? (i := 69) rfl)
set_option maxRecDepth 100000 in
theorem n_24 : (.instantiable RX11 7 : Cond) ∈ lw_tbl := jt_1 _ (List.mem_of_getElem? (i := 151) rfl)
set_option maxRecDepth 100000 in
theorem n_25 : (.instantiable RX12 20 : Cond) ∈ lw_tbl := jt_1 _ (List.mem_of_getElem? (i := 26) rfl)
set_option maxRecDepth 100000 in
theorem n_26 : (.instantiable RX13 104 : Cond) ∈ lw_tbl := jt_7 _ (List.mem_of_getElem? (i := 50) rfl)
