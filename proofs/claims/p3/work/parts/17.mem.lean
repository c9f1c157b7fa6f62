set_option maxRecDepth 100000 in
theorem m_657 : (.constant RJ6 265 1431655765 : Cond) ∈ jw := jin (jt_6 _ (List.mem_of_getElem? (i := 156) rfl)) rfl
set_option maxRecDepth 100000 in
theorem m_658 : (.constant RJ6 266 858993459 : Cond) ∈ jw := jin (jt_6 _ (List.mem_of_getElem? (i := 157) rfl)) rfl
set_option maxRecDepth 100000 in
theorem m_659 : (.constant RJ6 267 252645135 : Cond) ∈ jw := jin (jt_6 _ (List.mem_of_getElem? (i := 158) rfl)) rfl
set_option maxRecDepth 100000 in
theorem m_660 : (.constantLong RJ13 314 6148914691236517205 : Cond) ∈ jw := jin (jt_5 _ (List.mem_of_getElem? (i := 91) rfl)) rfl
set_option maxRecDepth 100000 in
theorem m_661 : (.constantLong RJ13 316 3689348814741910323 : Cond) ∈ jw := jin (jt_5 _ (List.mem_of_getElem? (i := 92) rfl)) rfl
set_option maxRecDepth 100000 in
theorem m_662 : (.constantLong RJ13 318 1085102592571150095 : Cond) ∈ jw := jin (jt_5 _ (List.mem_of_getElem? (i := 93) rfl)) rfl
set_option maxRecDepth 100000 in
theorem m_663 : (.constant RJ6 264 65536 : Cond) ∈ jw := jin (jt_6 _ (List.mem_of_getElem? (i := 204) rfl)) rfl
set_option maxRecDepth 100000 in
theorem m_664 : (.methodLink RX0 40 yX0_isDigit : Cond) ∈ jw := jin (jt_4 _ (List.mem_of_getElem? (i := 97) rfl)) rfl
set_option maxRecDepth 100000 in
theorem m_665 : (.static yX0_isDigit : Cond) ∈ jw := jin (jt_2 _ (List.mem_of_getElem? (i := 182) rfl)) rfl
set_option maxRecDepth 100000 in
theorem m_666 : (.initialized RX0 : Cond) ∈ jw := jin (jt_1 _ (List.mem_of_getElem? (i := 13) rfl)) rfl
set_option maxRecDepth 100000 in
theorem m_667 : (.code yX0_isDigit cX0_isDigit 1 (some .boolean) : Cond) ∈ jw := jin (jt_2 _ (List.mem_of_getElem? (i := 183) rfl)) rfl
set_option maxRecDepth 100000 in
theorem m_668 : (.methodLink RX0 44 yX0_byteOf : Cond) ∈ jw := jin (jt_4 _ (List.mem_of_getElem? (i := 91) rfl)) rfl
set_option maxRecDepth 100000 in
theorem m_669 : (.static yX0_byteOf : Cond) ∈ jw := jin (jt_4 _ (List.mem_of_getElem? (i := 92) rfl)) rfl
set_option maxRecDepth 100000 in
theorem m_670 : (.code yX0_byteOf cX0_byteOf 5 (some .int) : Cond) ∈ jw := jin (jt_4 _ (List.mem_of_getElem? (i := 93) rfl)) rfl
set_option maxRecDepth 100000 in
theorem m_671 : (.methodLink RX0 48 yX0_isMark : Cond) ∈ jw := jin (jt_4 _ (List.mem_of_getElem? (i := 94) rfl)) rfl
set_option maxRecDepth 100000 in
theorem m_672 : (.static yX0_isMark : Cond) ∈ jw := jin (jt_4 _ (List.mem_of_getElem? (i := 95) rfl)) rfl
set_option maxRecDepth 100000 in
theorem m_673 : (.code yX0_isMark cX0_isMark 1 (some .boolean) : Cond) ∈ jw := jin (jt_4 _ (List.mem_of_getElem? (i := 96) rfl)) rfl
set_option maxRecDepth 100000 in
theorem m_674 : (.methodLink RX7 68 yX7_kind : Cond) ∈ jw := jin (jt_3 _ (List.mem_of_getElem? (i := 76) rfl)) rfl
set_option maxRecDepth 100000 in
theorem m_675 : (.instanceMethod yX7_kind : Cond) ∈ jw := jin (jt_3 _ (List.mem_of_getElem? (i := 78) rfl)) rfl
set_option maxRecDepth 100000 in
theorem m_676 : (.selects RX7 yX7_kind yX7_kind : Cond) ∈ jw := jin (jt_p _ (List.mem_of_getElem? (i := 8) rfl)) rfl
set_option maxRecDepth 100000 in
theorem m_677 : (.initialized RX7 : Cond) ∈ jw := jin (jt_1 _ (List.mem_of_getElem? (i := 2) rfl)) rfl
set_option maxRecDepth 100000 in
theorem m_678 : (.code yX7_kind cX7_kind 1 (some .int) : Cond) ∈ jw := jin (jt_3 _ (List.mem_of_getElem? (i := 79) rfl)) rfl
set_option maxRecDepth 100000 in
theorem m_679 : (.methodLink RX7 160 yX7_word : Cond) ∈ jw := jin (jt_3 _ (List.mem_of_getElem? (i := 84) rfl)) rfl
set_option maxRecDepth 100000 in
theorem m_680 : (.instanceMethod yX7_word : Cond) ∈ jw := jin (jt_3 _ (List.mem_of_getElem? (i := 86) rfl)) rfl
set_option maxRecDepth 100000 in
theorem m_681 : (.selects RX7 yX7_word yX7_word : Cond) ∈ jw := jin (jt_p _ (List.mem_of_getElem? (i := 10) rfl)) rfl
set_option maxRecDepth 100000 in
theorem m_682 : (.code yX7_word cX7_word 1 (some .int) : Cond) ∈ jw := jin (jt_3 _ (List.mem_of_getElem? (i := 87) rfl)) rfl
set_option maxRecDepth 100000 in
theorem m_683 : (.methodLink RX7 154 yX7_refuse : Cond) ∈ jw := jin (jt_3 _ (List.mem_of_getElem? (i := 96) rfl)) rfl
set_option maxRecDepth 100000 in
theorem m_684 : (.instanceMethod yX7_refuse : Cond) ∈ jw := jin (jt_3 _ (List.mem_of_getElem? (i := 98) rfl)) rfl
set_option maxRecDepth 100000 in
theorem m_685 : (.selects RX7 yX7_refuse yX7_refuse : Cond) ∈ jw := jin (jt_p _ (List.mem_of_getElem? (i := 13) rfl)) rfl
set_option maxRecDepth 100000 in
theorem m_686 : (.code yX7_refuse cX7_refuse 1 none : Cond) ∈ jw := jin (jt_3 _ (List.mem_of_getElem? (i := 99) rfl)) rfl
set_option maxRecDepth 100000 in
theorem m_687 : (.constant RX7 140 99999 : Cond) ∈ jw := jin (jt_3 _ (List.mem_of_getElem? (i := 74) rfl)) rfl
set_option maxRecDepth 100000 in
theorem m_688 : (.methodLink RX7 185 yX7_emit : Cond) ∈ jw := jin (jt_3 _ (List.mem_of_getElem? (i := 108) rfl)) rfl
set_option maxRecDepth 100000 in
theorem m_689 : (.instanceMethod yX7_emit : Cond) ∈ jw := jin (jt_3 _ (List.mem_of_getElem? (i := 110) rfl)) rfl
set_option maxRecDepth 100000 in
theorem m_690 : (.selects RX7 yX7_emit yX7_emit : Cond) ∈ jw := jin (jt_p _ (List.mem_of_getElem? (i := 16) rfl)) rfl
set_option maxRecDepth 100000 in
theorem m_691 : (.code yX7_emit cX7_emit 2 none : Cond) ∈ jw := jin (jt_3 _ (List.mem_of_getElem? (i := 111) rfl)) rfl
set_option maxRecDepth 100000 in
theorem m_692 : (.methodLink RX7 157 yX7_advance : Cond) ∈ jw := jin (jt_3 _ (List.mem_of_getElem? (i := 88) rfl)) rfl
set_option maxRecDepth 100000 in
theorem m_693 : (.instanceMethod yX7_advance : Cond) ∈ jw := jin (jt_3 _ (List.mem_of_getElem? (i := 90) rfl)) rfl
set_option maxRecDepth 100000 in
theorem m_694 : (.selects RX7 yX7_advance yX7_advance : Cond) ∈ jw := jin (jt_p _ (List.mem_of_getElem? (i := 11) rfl)) rfl
set_option maxRecDepth 100000 in
theorem m_695 : (.code yX7_advance cX7_advance 1 none : Cond) ∈ jw := jin (jt_3 _ (List.mem_of_getElem? (i := 91) rfl)) rfl
set_option maxRecDepth 100000 in
theorem m_696 : (.methodLink RX7 202 yX7_readFactor : Cond) ∈ jw := jin (jt_3 _ (List.mem_of_getElem? (i := 136) rfl)) rfl
set_option maxRecDepth 100000 in
theorem m_697 : (.instanceMethod yX7_readFactor : Cond) ∈ jw := jin (jt_3 _ (List.mem_of_getElem? (i := 138) rfl)) rfl
set_option maxRecDepth 100000 in
theorem m_698 : (.selects RX7 yX7_readFactor yX7_readFactor : Cond) ∈ jw := jin (jt_p _ (List.mem_of_getElem? (i := 23) rfl)) rfl
set_option maxRecDepth 100000 in
theorem m_699 : (.code yX7_readFactor cX7_readFactor 4 none : Cond) ∈ jw := jin (jt_3 _ (List.mem_of_getElem? (i := 139) rfl)) rfl
set_option maxRecDepth 100000 in
theorem m_700 : (.methodLink RX7 199 yX7_readProduct : Cond) ∈ jw := jin (jt_3 _ (List.mem_of_getElem? (i := 132) rfl)) rfl
set_option maxRecDepth 100000 in
theorem m_701 : (.instanceMethod yX7_readProduct : Cond) ∈ jw := jin (jt_3 _ (List.mem_of_getElem? (i := 134) rfl)) rfl
set_option maxRecDepth 100000 in
theorem m_702 : (.selects RX7 yX7_readProduct yX7_readProduct : Cond) ∈ jw := jin (jt_p _ (List.mem_of_getElem? (i := 22) rfl)) rfl
set_option maxRecDepth 100000 in
theorem m_703 : (.code yX7_readProduct cX7_readProduct 4 none : Cond) ∈ jw := jin (jt_3 _ (List.mem_of_getElem? (i := 135) rfl)) rfl
set_option maxRecDepth 100000 in
theorem m_704 : (.methodLink RX7 176 yX7_readSum : Cond) ∈ jw := jin (jt_3 _ (List.mem_of_getElem? (i := 128) rfl)) rfl
set_option maxRecDepth 100000 in
theorem m_705 : (.instanceMethod yX7_readSum : Cond) ∈ jw := jin (jt_3 _ (List.mem_of_getElem? (i := 130) rfl)) rfl
set_option maxRecDepth 100000 in
theorem m_706 : (.selects RX7 yX7_readSum yX7_readSum : Cond) ∈ jw := jin (jt_p _ (List.mem_of_getElem? (i := 21) rfl)) rfl
set_option maxRecDepth 100000 in
theorem m_707 : (.code yX7_readSum cX7_readSum 4 none : Cond) ∈ jw := jin (jt_3 _ (List.mem_of_getElem? (i := 131) rfl)) rfl
set_option maxRecDepth 100000 in
theorem m_708 : (.methodLink RX7 182 yX7_expect : Cond) ∈ jw := jin (jt_3 _ (List.mem_of_getElem? (i := 140) rfl)) rfl
set_option maxRecDepth 100000 in
theorem m_709 : (.instanceMethod yX7_expect : Cond) ∈ jw := jin (jt_3 _ (List.mem_of_getElem? (i := 142) rfl)) rfl
set_option maxRecDepth 100000 in
theorem m_710 : (.selects RX7 yX7_expect yX7_expect : Cond) ∈ jw := jin (jt_p _ (List.mem_of_getElem? (i := 24) rfl)) rfl
set_option maxRecDepth 100000 in
theorem m_711 : (.code yX7_expect cX7_expect 2 none : Cond) ∈ jw := jin (jt_3 _ (List.mem_of_getElem? (i := 143) rfl)) rfl
set_option maxRecDepth 100000 in
theorem m_712 : (.methodLink RX7 196 yX7_readComparison : Cond) ∈ jw := jin (jt_3 _ (List.mem_of_getElem? (i := 124) rfl)) rfl
set_option maxRecDepth 100000 in
theorem m_713 : (.instanceMethod yX7_readComparison : Cond) ∈ jw := jin (jt_3 _ (List.mem_of_getElem? (i := 126) rfl)) rfl
set_option maxRecDepth 100000 in
theorem m_714 : (.selects RX7 yX7_readComparison yX7_readComparison : Cond) ∈ jw := jin (jt_p _ (List.mem_of_getElem? (i := 20) rfl)) rfl
set_option maxRecDepth 100000 in
theorem m_715 : (.code yX7_readComparison cX7_readComparison 3 none : Cond) ∈ jw := jin (jt_3 _ (List.mem_of_getElem? (i := 127) rfl)) rfl
set_option maxRecDepth 100000 in
theorem m_716 : (.methodLink RX7 193 yX7_readBasic : Cond) ∈ jw := jin (jt_3 _ (List.mem_of_getElem? (i := 120) rfl)) rfl
set_option maxRecDepth 100000 in
theorem m_717 : (.instanceMethod yX7_readBasic : Cond) ∈ jw := jin (jt_3 _ (List.mem_of_getElem? (i := 122) rfl)) rfl
set_option maxRecDepth 100000 in
theorem m_718 : (.selects RX7 yX7_readBasic yX7_readBasic : Cond) ∈ jw := jin (jt_p _ (List.mem_of_getElem? (i := 19) rfl)) rfl
set_option maxRecDepth 100000 in
theorem m_719 : (.code yX7_readBasic cX7_readBasic 3 none : Cond) ∈ jw := jin (jt_3 _ (List.mem_of_getElem? (i := 123) rfl)) rfl
set_option maxRecDepth 100000 in
theorem m_720 : (.methodLink RX7 188 yX7_readBoth : Cond) ∈ jw := jin (jt_3 _ (List.mem_of_getElem? (i := 116) rfl)) rfl
set_option maxRecDepth 100000 in
theorem m_721 : (.instanceMethod yX7_readBoth : Cond) ∈ jw := jin (jt_3 _ (List.mem_of_getElem? (i := 118) rfl)) rfl
set_option maxRecDepth 100000 in
theorem m_722 : (.selects RX7 yX7_readBoth yX7_readBoth : Cond) ∈ jw := jin (jt_p _ (List.mem_of_getElem? (i := 18) rfl)) rfl
set_option maxRecDepth 100000 in
theorem m_723 : (.code yX7_readBoth cX7_readBoth 3 none : Cond) ∈ jw := jin (jt_3 _ (List.mem_of_getElem? (i := 119) rfl)) rfl
set_option maxRecDepth 100000 in
theorem m_724 : (.methodLink RX7 173 yX7_readEither : Cond) ∈ jw := jin (jt_3 _ (List.mem_of_getElem? (i := 112) rfl)) rfl
set_option maxRecDepth 100000 in
theorem m_725 : (.instanceMethod yX7_readEither : Cond) ∈ jw := jin (jt_3 _ (List.mem_of_getElem? (i := 114) rfl)) rfl
set_option maxRecDepth 100000 in
theorem m_726 : (.selects RX7 yX7_readEither yX7_readEither : Cond) ∈ jw := jin (jt_p _ (List.mem_of_getElem? (i := 17) rfl)) rfl
set_option maxRecDepth 100000 in
theorem m_727 : (.code yX7_readEither cX7_readEither 3 none : Cond) ∈ jw := jin (jt_3 _ (List.mem_of_getElem? (i := 115) rfl)) rfl
set_option maxRecDepth 100000 in
theorem m_728 : (.methodLink RX7 109 yX7_byteAt : Cond) ∈ jw := jin (jt_2 _ (List.mem_of_getElem? (i := 170) rfl)) rfl
set_option maxRecDepth 100000 in
theorem m_729 : (.instanceMethod yX7_byteAt : Cond) ∈ jw := jin (jt_2 _ (List.mem_of_getElem? (i := 172) rfl)) rfl
set_option maxRecDepth 100000 in
theorem m_730 : (.selects RX7 yX7_byteAt yX7_byteAt : Cond) ∈ jw := jin (jt_p _ (List.mem_of_getElem? (i := 1) rfl)) rfl
set_option maxRecDepth 100000 in
theorem m_731 : (.code yX7_byteAt cX7_byteAt 2 (some .int) : Cond) ∈ jw := jin (jt_2 _ (List.mem_of_getElem? (i := 173) rfl)) rfl
set_option maxRecDepth 100000 in
theorem m_732 : (.methodLink RX7 166 yX7_openSort : Cond) ∈ jw := jin (jt_3 _ (List.mem_of_getElem? (i := 100) rfl)) rfl
set_option maxRecDepth 100000 in
theorem m_733 : (.instanceMethod yX7_openSort : Cond) ∈ jw := jin (jt_3 _ (List.mem_of_getElem? (i := 102) rfl)) rfl
set_option maxRecDepth 100000 in
theorem m_734 : (.selects RX7 yX7_openSort yX7_openSort : Cond) ∈ jw := jin (jt_p _ (List.mem_of_getElem? (i := 14) rfl)) rfl
set_option maxRecDepth 100000 in
theorem m_735 : (.code yX7_openSort cX7_openSort 4 (some .int) : Cond) ∈ jw := jin (jt_3 _ (List.mem_of_getElem? (i := 103) rfl)) rfl
set_option maxRecDepth 100000 in
theorem m_736 : (.methodLink RX7 179 yX7_closeSort : Cond) ∈ jw := jin (jt_3 _ (List.mem_of_getElem? (i := 144) rfl)) rfl
set_option maxRecDepth 100000 in
theorem m_737 : (.instanceMethod yX7_closeSort : Cond) ∈ jw := jin (jt_3 _ (List.mem_of_getElem? (i := 146) rfl)) rfl
set_option maxRecDepth 100000 in
theorem m_738 : (.selects RX7 yX7_closeSort yX7_closeSort : Cond) ∈ jw := jin (jt_p _ (List.mem_of_getElem? (i := 25) rfl)) rfl
set_option maxRecDepth 100000 in
theorem m_739 : (.code yX7_closeSort cX7_closeSort 2 none : Cond) ∈ jw := jin (jt_3 _ (List.mem_of_getElem? (i := 147) rfl)) rfl
set_option maxRecDepth 100000 in
theorem m_740 : (.methodLink RX7 169 yX7_readChoice : Cond) ∈ jw := jin (jt_3 _ (List.mem_of_getElem? (i := 104) rfl)) rfl
set_option maxRecDepth 100000 in
theorem m_741 : (.instanceMethod yX7_readChoice : Cond) ∈ jw := jin (jt_3 _ (List.mem_of_getElem? (i := 106) rfl)) rfl
set_option maxRecDepth 100000 in
theorem m_742 : (.selects RX7 yX7_readChoice yX7_readChoice : Cond) ∈ jw := jin (jt_p _ (List.mem_of_getElem? (i := 15) rfl)) rfl
set_option maxRecDepth 100000 in
theorem m_743 : (.code yX7_readChoice cX7_readChoice 3 none : Cond) ∈ jw := jin (jt_3 _ (List.mem_of_getElem? (i := 107) rfl)) rfl
set_option maxRecDepth 100000 in
theorem m_744 : (.methodLink RX7 163 yX7_readSkip : Cond) ∈ jw := jin (jt_3 _ (List.mem_of_getElem? (i := 92) rfl)) rfl
set_option maxRecDepth 100000 in
theorem m_745 : (.instanceMethod yX7_readSkip : Cond) ∈ jw := jin (jt_3 _ (List.mem_of_getElem? (i := 94) rfl)) rfl
set_option maxRecDepth 100000 in
theorem m_746 : (.selects RX7 yX7_readSkip yX7_readSkip : Cond) ∈ jw := jin (jt_p _ (List.mem_of_getElem? (i := 12) rfl)) rfl
set_option maxRecDepth 100000 in
theorem m_747 : (.code yX7_readSkip cX7_readSkip 4 none : Cond) ∈ jw := jin (jt_3 _ (List.mem_of_getElem? (i := 95) rfl)) rfl
set_option maxRecDepth 100000 in
theorem m_748 : (.fieldLink RJ0 38 "java/lang/String" "COMPACT_STRINGS" "Z" : Cond) ∈ jw := jin (jt_2 _ (List.mem_of_getElem? (i := 200) rfl)) rfl
set_option maxRecDepth 100000 in
theorem m_749 : (.fieldLink RJ0 15 "java/lang/String" "coder" "B" : Cond) ∈ jw := jin (jt_10 _ (List.mem_of_getElem? (i := 102) rfl)) rfl
set_option maxRecDepth 100000 in
theorem m_750 : (.fieldLink RJ0 9 "java/lang/String" "value" "[B" : Cond) ∈ jw := jin (jt_10 _ (List.mem_of_getElem? (i := 103) rfl)) rfl
set_option maxRecDepth 100000 in
theorem m_751 : (.methodLink RJ0 335 yJ0_coder_7d493 : Cond) ∈ jw := jin (jt_2 _ (List.mem_of_getElem? (i := 206) rfl)) rfl
set_option maxRecDepth 100000 in
theorem m_752 : (.instanceMethod yJ0_coder_7d493 : Cond) ∈ jw := jin (jt_2 _ (List.mem_of_getElem? (i := 207) rfl)) rfl
set_option maxRecDepth 100000 in
theorem m_753 : (.selects RJ0 yJ0_coder_7d493 yJ0_coder_7d493 : Cond) ∈ jw := jin (jt_2 _ (List.mem_of_getElem? (i := 208) rfl)) rfl
set_option maxRecDepth 100000 in
theorem m_754 : (.initialized RJ0 : Cond) ∈ jw := jin (jt_1 _ (List.mem_of_getElem? (i := 14) rfl)) rfl
set_option maxRecDepth 100000 in
theorem m_755 : (.code yJ0_coder_7d493 cJ0_coder_7d493 1 (some .byte) : Cond) ∈ jw := jin (jt_2 _ (List.mem_of_getElem? (i := 209) rfl)) rfl
set_option maxRecDepth 100000 in
theorem m_756 : (.methodLink RJ1 88 yJ1_canEncode_9a6ad : Cond) ∈ jw := jin (jt_2 _ (List.mem_of_getElem? (i := 213) rfl)) rfl
set_option maxRecDepth 100000 in
theorem m_757 : (.static yJ1_canEncode_9a6ad : Cond) ∈ jw := jin (jt_2 _ (List.mem_of_getElem? (i := 214) rfl)) rfl
set_option maxRecDepth 100000 in
theorem m_758 : (.initialized RJ1 : Cond) ∈ jw := jin (jt_1 _ (List.mem_of_getElem? (i := 15) rfl)) rfl
set_option maxRecDepth 100000 in
theorem m_759 : (.code yJ1_canEncode_9a6ad cJ1_canEncode_9a6ad 1 (some .boolean) : Cond) ∈ jw := jin (jt_2 _ (List.mem_of_getElem? (i := 215) rfl)) rfl
set_option maxRecDepth 100000 in
theorem m_760 : (.methodLink RJ1 92 Lib.Math.max.name : Cond) ∈ jw := jin (jt_2 _ (List.mem_of_getElem? (i := 216) rfl)) rfl
set_option maxRecDepth 100000 in
theorem m_761 : (.static Lib.Math.max.name : Cond) ∈ jw := jin (jt_2 _ (List.mem_of_getElem? (i := 217) rfl)) rfl
set_option maxRecDepth 100000 in
theorem m_762 : (.initialized RJ9 : Cond) ∈ jw := jin (jt_1 _ (List.mem_of_getElem? (i := 6) rfl)) rfl
set_option maxRecDepth 100000 in
theorem m_763 : (.code Lib.Math.max.name Lib.Math.max.code 2 (some .int) : Cond) ∈ jw := jin (jt_2 _ (List.mem_of_getElem? (i := 218) rfl)) rfl
set_option maxRecDepth 100000 in
theorem m_764 : (.methodLink RJ1 38 Lib.Math.min.name : Cond) ∈ jw := jin (jt_2 _ (List.mem_of_getElem? (i := 219) rfl)) rfl
set_option maxRecDepth 100000 in
theorem m_765 : (.static Lib.Math.min.name : Cond) ∈ jw := jin (jt_1 _ (List.mem_of_getElem? (i := 157) rfl)) rfl
set_option maxRecDepth 100000 in
theorem m_766 : (.code Lib.Math.min.name Lib.Math.min.code 2 (some .int) : Cond) ∈ jw := jin (jt_1 _ (List.mem_of_getElem? (i := 158) rfl)) rfl
set_option maxRecDepth 100000 in
theorem m_767 : (.methodLink RJ1 95 yJ1_indexOfChar_4cfef : Cond) ∈ jw := jin (jt_2 _ (List.mem_of_getElem? (i := 220) rfl)) rfl
set_option maxRecDepth 100000 in
theorem m_768 : (.static yJ1_indexOfChar_4cfef : Cond) ∈ jw := jin (jt_2 _ (List.mem_of_getElem? (i := 221) rfl)) rfl
set_option maxRecDepth 100000 in
theorem m_769 : (.code yJ1_indexOfChar_4cfef cJ1_indexOfChar_4cfef 6 (some .int) : Cond) ∈ jw := jin (jt_2 _ (List.mem_of_getElem? (i := 222) rfl)) rfl
set_option maxRecDepth 100000 in
theorem m_770 : (.methodLink RJ0 492 yJ0_isLatin1_aae02 : Cond) ∈ jw := jin (jt_2 _ (List.mem_of_getElem? (i := 196) rfl)) rfl
set_option maxRecDepth 100000 in
theorem m_771 : (.instanceMethod yJ0_isLatin1_aae02 : Cond) ∈ jw := jin (jt_2 _ (List.mem_of_getElem? (i := 197) rfl)) rfl
set_option maxRecDepth 100000 in
theorem m_772 : (.selects RJ0 yJ0_isLatin1_aae02 yJ0_isLatin1_aae02 : Cond) ∈ jw := jin (jt_2 _ (List.mem_of_getElem? (i := 198) rfl)) rfl
set_option maxRecDepth 100000 in
theorem m_773 : (.code yJ0_isLatin1_aae02 cJ0_isLatin1_aae02 1 (some .boolean) : Cond) ∈ jw := jin (jt_2 _ (List.mem_of_getElem? (i := 199) rfl)) rfl
set_option maxRecDepth 100000 in
theorem m_774 : (.methodLink RJ0 505 yJ0_length_8abf5 : Cond) ∈ jw := jin (jt_2 _ (List.mem_of_getElem? (i := 202) rfl)) rfl
set_option maxRecDepth 100000 in
theorem m_775 : (.instanceMethod yJ0_length_8abf5 : Cond) ∈ jw := jin (jt_2 _ (List.mem_of_getElem? (i := 203) rfl)) rfl
set_option maxRecDepth 100000 in
theorem m_776 : (.selects RJ0 yJ0_length_8abf5 yJ0_length_8abf5 : Cond) ∈ jw := jin (jt_2 _ (List.mem_of_getElem? (i := 204) rfl)) rfl
set_option maxRecDepth 100000 in
theorem m_777 : (.code yJ0_length_8abf5 cJ0_length_8abf5 1 (some .int) : Cond) ∈ jw := jin (jt_2 _ (List.mem_of_getElem? (i := 205) rfl)) rfl
set_option maxRecDepth 100000 in
theorem m_778 : (.methodLink RJ0 637 yJ1_indexOf_4cfef : Cond) ∈ jw := jin (jt_2 _ (List.mem_of_getElem? (i := 210) rfl)) rfl
set_option maxRecDepth 100000 in
theorem m_779 : (.static yJ1_indexOf_4cfef : Cond) ∈ jw := jin (jt_2 _ (List.mem_of_getElem? (i := 211) rfl)) rfl
set_option maxRecDepth 100000 in
theorem m_780 : (.code yJ1_indexOf_4cfef cJ1_indexOf_4cfef 4 (some .int) : Cond) ∈ jw := jin (jt_2 _ (List.mem_of_getElem? (i := 212) rfl)) rfl
set_option maxRecDepth 100000 in
theorem m_781 : (.methodLink RJ0 633 yJ0_indexOf_7cf53 : Cond) ∈ jw := jin (jt_2 _ (List.mem_of_getElem? (i := 192) rfl)) rfl
set_option maxRecDepth 100000 in
theorem m_782 : (.instanceMethod yJ0_indexOf_7cf53 : Cond) ∈ jw := jin (jt_2 _ (List.mem_of_getElem? (i := 193) rfl)) rfl
set_option maxRecDepth 100000 in
theorem m_783 : (.selects RJ0 yJ0_indexOf_7cf53 yJ0_indexOf_7cf53 : Cond) ∈ jw := jin (jt_2 _ (List.mem_of_getElem? (i := 194) rfl)) rfl
set_option maxRecDepth 100000 in
theorem m_784 : (.code yJ0_indexOf_7cf53 cJ0_indexOf_7cf53 3 (some .int) : Cond) ∈ jw := jin (jt_2 _ (List.mem_of_getElem? (i := 195) rfl)) rfl
set_option maxRecDepth 100000 in
theorem m_785 : (.methodLink RX7 100 yJ0_indexOf_0f7a4 : Cond) ∈ jw := jin (jt_2 _ (List.mem_of_getElem? (i := 188) rfl)) rfl
set_option maxRecDepth 100000 in
theorem m_786 : (.instanceMethod yJ0_indexOf_0f7a4 : Cond) ∈ jw := jin (jt_2 _ (List.mem_of_getElem? (i := 189) rfl)) rfl
set_option maxRecDepth 100000 in
theorem m_787 : (.selects RJ0 yJ0_indexOf_0f7a4 yJ0_indexOf_0f7a4 : Cond) ∈ jw := jin (jt_2 _ (List.mem_of_getElem? (i := 190) rfl)) rfl
set_option maxRecDepth 100000 in
theorem m_788 : (.code yJ0_indexOf_0f7a4 cJ0_indexOf_0f7a4 2 (some .int) : Cond) ∈ jw := jin (jt_2 _ (List.mem_of_getElem? (i := 191) rfl)) rfl
set_option maxRecDepth 100000 in
theorem m_789 : (.methodLink RX7 122 yX7_isLetter : Cond) ∈ jw := jin (jt_2 _ (List.mem_of_getElem? (i := 178) rfl)) rfl
set_option maxRecDepth 100000 in
theorem m_790 : (.static yX7_isLetter : Cond) ∈ jw := jin (jt_2 _ (List.mem_of_getElem? (i := 179) rfl)) rfl
set_option maxRecDepth 100000 in
theorem m_791 : (.code yX7_isLetter cX7_isLetter 1 (some .boolean) : Cond) ∈ jw := jin (jt_2 _ (List.mem_of_getElem? (i := 180) rfl)) rfl
set_option maxRecDepth 100000 in
theorem m_792 : (.methodLink RX7 126 yX0_isDigit : Cond) ∈ jw := jin (jt_2 _ (List.mem_of_getElem? (i := 181) rfl)) rfl
set_option maxRecDepth 100000 in
theorem m_793 : (.methodLink RX7 131 yX7_isSign : Cond) ∈ jw := jin (jt_2 _ (List.mem_of_getElem? (i := 184) rfl)) rfl
set_option maxRecDepth 100000 in
theorem m_794 : (.static yX7_isSign : Cond) ∈ jw := jin (jt_2 _ (List.mem_of_getElem? (i := 185) rfl)) rfl
set_option maxRecDepth 100000 in
theorem m_795 : (.code yX7_isSign cX7_isSign 1 (some .boolean) : Cond) ∈ jw := jin (jt_2 _ (List.mem_of_getElem? (i := 186) rfl)) rfl
set_option maxRecDepth 100000 in
theorem m_796 : (.fieldLink RJ0 1053 "jdk/internal/util/Preconditions" "SIOOBE_FORMATTER" "Ljava/util/function/BiFunction;" : Cond) ∈ jw := jin (jt_3 _ (List.mem_of_getElem? (i := 1) rfl)) rfl
set_option maxRecDepth 100000 in
theorem m_797 : (.methodLink RJ0 1059 yJ3_checkIndex_8e157 : Cond) ∈ jw := jin (jt_3 _ (List.mem_of_getElem? (i := 56) rfl)) rfl
set_option maxRecDepth 100000 in
theorem m_798 : (.static yJ3_checkIndex_8e157 : Cond) ∈ jw := jin (jt_3 _ (List.mem_of_getElem? (i := 57) rfl)) rfl
set_option maxRecDepth 100000 in
theorem m_799 : (.initialized RJ3 : Cond) ∈ jw := jin (jt_1 _ (List.mem_of_getElem? (i := 17) rfl)) rfl
set_option maxRecDepth 100000 in
theorem m_800 : (.code yJ3_checkIndex_8e157 cJ3_checkIndex_8e157 3 (some .int) : Cond) ∈ jw := jin (jt_3 _ (List.mem_of_getElem? (i := 58) rfl)) rfl
set_option maxRecDepth 100000 in
theorem m_801 : (.methodLink RJ1 9 yJ0_checkIndex_df160 : Cond) ∈ jw := jin (jt_3 _ (List.mem_of_getElem? (i := 53) rfl)) rfl
set_option maxRecDepth 100000 in
theorem m_802 : (.static yJ0_checkIndex_df160 : Cond) ∈ jw := jin (jt_3 _ (List.mem_of_getElem? (i := 54) rfl)) rfl
set_option maxRecDepth 100000 in
theorem m_803 : (.code yJ0_checkIndex_df160 cJ0_checkIndex_df160 2 none : Cond) ∈ jw := jin (jt_3 _ (List.mem_of_getElem? (i := 55) rfl)) rfl
set_option maxRecDepth 100000 in
theorem m_804 : (.methodLink RJ0 495 yJ1_charAt_3b067 : Cond) ∈ jw := jin (jt_3 _ (List.mem_of_getElem? (i := 50) rfl)) rfl
set_option maxRecDepth 100000 in
theorem m_805 : (.static yJ1_charAt_3b067 : Cond) ∈ jw := jin (jt_3 _ (List.mem_of_getElem? (i := 51) rfl)) rfl
set_option maxRecDepth 100000 in
theorem m_806 : (.code yJ1_charAt_3b067 cJ1_charAt_3b067 2 (some .char) : Cond) ∈ jw := jin (jt_3 _ (List.mem_of_getElem? (i := 52) rfl)) rfl
set_option maxRecDepth 100000 in
theorem m_807 : (.methodLink RX7 143 yJ0_length_8abf5 : Cond) ∈ jw := jin (jt_3 _ (List.mem_of_getElem? (i := 45) rfl)) rfl
set_option maxRecDepth 100000 in
theorem m_808 : (.methodLink RX7 146 yJ0_charAt_5068e : Cond) ∈ jw := jin (jt_3 _ (List.mem_of_getElem? (i := 46) rfl)) rfl
set_option maxRecDepth 100000 in
theorem m_809 : (.instanceMethod yJ0_charAt_5068e : Cond) ∈ jw := jin (jt_3 _ (List.mem_of_getElem? (i := 47) rfl)) rfl
set_option maxRecDepth 100000 in
theorem m_810 : (.selects RJ0 yJ0_charAt_5068e yJ0_charAt_5068e : Cond) ∈ jw := jin (jt_3 _ (List.mem_of_getElem? (i := 48) rfl)) rfl
set_option maxRecDepth 100000 in
theorem m_811 : (.code yJ0_charAt_5068e cJ0_charAt_5068e 2 (some .char) : Cond) ∈ jw := jin (jt_3 _ (List.mem_of_getElem? (i := 49) rfl)) rfl
set_option maxRecDepth 100000 in
theorem m_812 : (.methodLink RX7 150 yX7_isWordAt : Cond) ∈ jw := jin (jt_3 _ (List.mem_of_getElem? (i := 66) rfl)) rfl
set_option maxRecDepth 100000 in
theorem m_813 : (.instanceMethod yX7_isWordAt : Cond) ∈ jw := jin (jt_3 _ (List.mem_of_getElem? (i := 68) rfl)) rfl
set_option maxRecDepth 100000 in
theorem m_814 : (.selects RX7 yX7_isWordAt yX7_isWordAt : Cond) ∈ jw := jin (jt_p _ (List.mem_of_getElem? (i := 6) rfl)) rfl
set_option maxRecDepth 100000 in
theorem m_815 : (.code yX7_isWordAt cX7_isWordAt 5 (some .boolean) : Cond) ∈ jw := jin (jt_3 _ (List.mem_of_getElem? (i := 69) rfl)) rfl
set_option maxRecDepth 100000 in
theorem m_816 : (.methodLink RX7 137 yX7_numberAt : Cond) ∈ jw := jin (jt_3 _ (List.mem_of_getElem? (i := 70) rfl)) rfl
set_option maxRecDepth 100000 in
theorem m_817 : (.instanceMethod yX7_numberAt : Cond) ∈ jw := jin (jt_3 _ (List.mem_of_getElem? (i := 72) rfl)) rfl
set_option maxRecDepth 100000 in
theorem m_818 : (.selects RX7 yX7_numberAt yX7_numberAt : Cond) ∈ jw := jin (jt_p _ (List.mem_of_getElem? (i := 7) rfl)) rfl
set_option maxRecDepth 100000 in
theorem m_819 : (.code yX7_numberAt cX7_numberAt 5 (some .int) : Cond) ∈ jw := jin (jt_3 _ (List.mem_of_getElem? (i := 73) rfl)) rfl
set_option maxRecDepth 100000 in
theorem m_820 : (.methodLink RX7 134 yX7_wordAt : Cond) ∈ jw := jin (jt_3 _ (List.mem_of_getElem? (i := 40) rfl)) rfl
set_option maxRecDepth 100000 in
theorem m_821 : (.instanceMethod yX7_wordAt : Cond) ∈ jw := jin (jt_3 _ (List.mem_of_getElem? (i := 42) rfl)) rfl
set_option maxRecDepth 100000 in
theorem m_822 : (.selects RX7 yX7_wordAt yX7_wordAt : Cond) ∈ jw := jin (jt_p _ (List.mem_of_getElem? (i := 5) rfl)) rfl
set_option maxRecDepth 100000 in
theorem m_823 : (.code yX7_wordAt cX7_wordAt 6 (some .int) : Cond) ∈ jw := jin (jt_3 _ (List.mem_of_getElem? (i := 43) rfl)) rfl
set_option maxRecDepth 100000 in
theorem m_824 : (.methodLink RX7 112 yX7_kindAt : Cond) ∈ jw := jin (jt_2 _ (List.mem_of_getElem? (i := 174) rfl)) rfl
set_option maxRecDepth 100000 in
theorem m_825 : (.instanceMethod yX7_kindAt : Cond) ∈ jw := jin (jt_2 _ (List.mem_of_getElem? (i := 176) rfl)) rfl
set_option maxRecDepth 100000 in
theorem m_826 : (.selects RX7 yX7_kindAt yX7_kindAt : Cond) ∈ jw := jin (jt_p _ (List.mem_of_getElem? (i := 2) rfl)) rfl
set_option maxRecDepth 100000 in
theorem m_827 : (.code yX7_kindAt cX7_kindAt 3 (some .int) : Cond) ∈ jw := jin (jt_2 _ (List.mem_of_getElem? (i := 177) rfl)) rfl
set_option maxRecDepth 100000 in
theorem m_828 : (.methodLink RX7 115 yX7_stopAt : Cond) ∈ jw := jin (jt_3 _ (List.mem_of_getElem? (i := 32) rfl)) rfl
set_option maxRecDepth 100000 in
theorem m_829 : (.instanceMethod yX7_stopAt : Cond) ∈ jw := jin (jt_3 _ (List.mem_of_getElem? (i := 34) rfl)) rfl
set_option maxRecDepth 100000 in
theorem m_830 : (.selects RX7 yX7_stopAt yX7_stopAt : Cond) ∈ jw := jin (jt_p _ (List.mem_of_getElem? (i := 3) rfl)) rfl
set_option maxRecDepth 100000 in
theorem m_831 : (.code yX7_stopAt cX7_stopAt 4 (some .int) : Cond) ∈ jw := jin (jt_3 _ (List.mem_of_getElem? (i := 35) rfl)) rfl
set_option maxRecDepth 100000 in
theorem m_832 : (.methodLink RX7 118 yX7_addToken : Cond) ∈ jw := jin (jt_3 _ (List.mem_of_getElem? (i := 36) rfl)) rfl
set_option maxRecDepth 100000 in
theorem m_833 : (.instanceMethod yX7_addToken : Cond) ∈ jw := jin (jt_3 _ (List.mem_of_getElem? (i := 38) rfl)) rfl
set_option maxRecDepth 100000 in
theorem m_834 : (.selects RX7 yX7_addToken yX7_addToken : Cond) ∈ jw := jin (jt_p _ (List.mem_of_getElem? (i := 4) rfl)) rfl
set_option maxRecDepth 100000 in
theorem m_835 : (.code yX7_addToken cX7_addToken 4 none : Cond) ∈ jw := jin (jt_3 _ (List.mem_of_getElem? (i := 39) rfl)) rfl
set_option maxRecDepth 100000 in
theorem m_836 : (.methodLink RX7 47 yX7_scan : Cond) ∈ jw := jin (jt_2 _ (List.mem_of_getElem? (i := 166) rfl)) rfl
set_option maxRecDepth 100000 in
theorem m_837 : (.instanceMethod yX7_scan : Cond) ∈ jw := jin (jt_2 _ (List.mem_of_getElem? (i := 168) rfl)) rfl
set_option maxRecDepth 100000 in
theorem m_838 : (.selects RX7 yX7_scan yX7_scan : Cond) ∈ jw := jin (jt_p _ (List.mem_of_getElem? (i := 0) rfl)) rfl
set_option maxRecDepth 100000 in
theorem m_839 : (.code yX7_scan cX7_scan 5 none : Cond) ∈ jw := jin (jt_2 _ (List.mem_of_getElem? (i := 169) rfl)) rfl
set_option maxRecDepth 100000 in
theorem m_840 : (.methodLink RX7 62 yJ7_fill_53178 : Cond) ∈ jw := jin (jt_3 _ (List.mem_of_getElem? (i := 75) rfl)) rfl
set_option maxRecDepth 100000 in
theorem m_841 : (.static yJ7_fill_53178 : Cond) ∈ jw := jin (jt_1 _ (List.mem_of_getElem? (i := 199) rfl)) rfl
set_option maxRecDepth 100000 in
theorem m_842 : (.initialized RJ7 : Cond) ∈ jw := jin (jt_1 _ (List.mem_of_getElem? (i := 8) rfl)) rfl
set_option maxRecDepth 100000 in
theorem m_843 : (.code yJ7_fill_53178 cJ7_fill_53178 4 none : Cond) ∈ jw := jin (jt_1 _ (List.mem_of_getElem? (i := 200) rfl)) rfl
set_option maxRecDepth 100000 in
theorem m_844 : (.methodLink RX7 72 yX7_readClause : Cond) ∈ jw := jin (jt_3 _ (List.mem_of_getElem? (i := 80) rfl)) rfl
set_option maxRecDepth 100000 in
theorem m_845 : (.instanceMethod yX7_readClause : Cond) ∈ jw := jin (jt_3 _ (List.mem_of_getElem? (i := 82) rfl)) rfl
set_option maxRecDepth 100000 in
theorem m_846 : (.selects RX7 yX7_readClause yX7_readClause : Cond) ∈ jw := jin (jt_p _ (List.mem_of_getElem? (i := 9) rfl)) rfl
set_option maxRecDepth 100000 in
theorem m_847 : (.code yX7_readClause cX7_readClause 2 none : Cond) ∈ jw := jin (jt_3 _ (List.mem_of_getElem? (i := 83) rfl)) rfl
set_option maxRecDepth 100000 in
theorem m_848 : (.methodLink RX8 52 yJ7_fill_53178 : Cond) ∈ jw := jin (jt_6 _ (List.mem_of_getElem? (i := 90) rfl)) rfl
set_option maxRecDepth 100000 in
theorem m_849 : (.methodLink RX3 51 Lib.Math.abs.name : Cond) ∈ jw := jin (jt_6 _ (List.mem_of_getElem? (i := 129) rfl)) rfl
set_option maxRecDepth 100000 in
theorem m_850 : (.static Lib.Math.abs.name : Cond) ∈ jw := jin (jt_6 _ (List.mem_of_getElem? (i := 130) rfl)) rfl
set_option maxRecDepth 100000 in
theorem m_851 : (.code Lib.Math.abs.name Lib.Math.abs.code 1 (some .int) : Cond) ∈ jw := jin (jt_6 _ (List.mem_of_getElem? (i := 131) rfl)) rfl
set_option maxRecDepth 100000 in
theorem m_852 : (.methodLink RX3 34 Lib.Math.min.name : Cond) ∈ jw := jin (jt_6 _ (List.mem_of_getElem? (i := 115) rfl)) rfl
set_option maxRecDepth 100000 in
theorem m_853 : (.methodLink RX6 60 yX0_byteAt : Cond) ∈ jw := jin (jt_5 _ (List.mem_of_getElem? (i := 0) rfl)) rfl
set_option maxRecDepth 100000 in
theorem m_854 : (.instanceMethod yX0_byteAt : Cond) ∈ jw := jin (jt_4 _ (List.mem_of_getElem? (i := 51) rfl)) rfl
set_option maxRecDepth 100000 in
theorem m_855 : (.selects RX0 yX0_byteAt yX0_byteAt : Cond) ∈ jw := jin (jt_4 _ (List.mem_of_getElem? (i := 52) rfl)) rfl
set_option maxRecDepth 100000 in
theorem m_856 : (.code yX0_byteAt cX0_byteAt 2 (some .int) : Cond) ∈ jw := jin (jt_4 _ (List.mem_of_getElem? (i := 53) rfl)) rfl
set_option maxRecDepth 100000 in
theorem m_857 : (.methodLink RX6 64 yX6_rank : Cond) ∈ jw := jin (jt_5 _ (List.mem_of_getElem? (i := 1) rfl)) rfl
set_option maxRecDepth 100000 in
theorem m_858 : (.instanceMethod yX6_rank : Cond) ∈ jw := jin (jt_5 _ (List.mem_of_getElem? (i := 3) rfl)) rfl
set_option maxRecDepth 100000 in
theorem m_859 : (.selects RX6 yX6_rank yX6_rank : Cond) ∈ jw := jin (jt_p _ (List.mem_of_getElem? (i := 43) rfl)) rfl
set_option maxRecDepth 100000 in
theorem m_860 : (.initialized RX6 : Cond) ∈ jw := jin (jt_1 _ (List.mem_of_getElem? (i := 4) rfl)) rfl
set_option maxRecDepth 100000 in
theorem m_861 : (.code yX6_rank cX6_rank 2 (some .int) : Cond) ∈ jw := jin (jt_5 _ (List.mem_of_getElem? (i := 4) rfl)) rfl
set_option maxRecDepth 100000 in
theorem m_862 : (.methodLink RX6 53 yX6_compareKeys : Cond) ∈ jw := jin (jt_4 _ (List.mem_of_getElem? (i := 236) rfl)) rfl
set_option maxRecDepth 100000 in
theorem m_863 : (.instanceMethod yX6_compareKeys : Cond) ∈ jw := jin (jt_4 _ (List.mem_of_getElem? (i := 237) rfl)) rfl
set_option maxRecDepth 100000 in
theorem m_864 : (.selects RX6 yX6_compareKeys yX6_compareKeys : Cond) ∈ jw := jin (jt_4 _ (List.mem_of_getElem? (i := 238) rfl)) rfl
set_option maxRecDepth 100000 in
theorem m_865 : (.code yX6_compareKeys cX6_compareKeys 8 (some .int) : Cond) ∈ jw := jin (jt_4 _ (List.mem_of_getElem? (i := 239) rfl)) rfl
set_option maxRecDepth 100000 in
theorem m_866 : (.methodLink RX12 278 arraycopyName : Cond) ∈ jw := jin (jt_5 _ (List.mem_of_getElem? (i := 5) rfl)) rfl
set_option maxRecDepth 100000 in
theorem m_867 : (.native arraycopyName : Cond) ∈ jw := jin (jt_3 _ (List.mem_of_getElem? (i := 198) rfl)) rfl
set_option maxRecDepth 100000 in
theorem m_868 : (.static arraycopyName : Cond) ∈ jw := jin (jt_3 _ (List.mem_of_getElem? (i := 197) rfl)) rfl
set_option maxRecDepth 100000 in
theorem m_869 : (.initialized RJ10 : Cond) ∈ jw := jin (jt_1 _ (List.mem_of_getElem? (i := 20) rfl)) rfl
set_option maxRecDepth 100000 in
theorem m_870 : (.methodLink RX12 189 yX12_entryAt : Cond) ∈ jw := jin (jt_4 _ (List.mem_of_getElem? (i := 30) rfl)) rfl
set_option maxRecDepth 100000 in
theorem m_871 : (.instanceMethod yX12_entryAt : Cond) ∈ jw := jin (jt_4 _ (List.mem_of_getElem? (i := 32) rfl)) rfl
set_option maxRecDepth 100000 in
theorem m_872 : (.selects RX12 yX12_entryAt yX12_entryAt : Cond) ∈ jw := jin (jt_p _ (List.mem_of_getElem? (i := 31) rfl)) rfl
set_option maxRecDepth 100000 in
theorem m_873 : (.initialized RX12 : Cond) ∈ jw := jin (jt_1 _ (List.mem_of_getElem? (i := 1) rfl)) rfl
set_option maxRecDepth 100000 in
theorem m_874 : (.code yX12_entryAt cX12_entryAt 2 (some (.object "BookOfAll$Entry")) : Cond) ∈ jw := jin (jt_4 _ (List.mem_of_getElem? (i := 33) rfl)) rfl
set_option maxRecDepth 100000 in
theorem m_875 : (.methodLink RX12 274 yX6_isAhead : Cond) ∈ jw := jin (jt_4 _ (List.mem_of_getElem? (i := 232) rfl)) rfl
set_option maxRecDepth 100000 in
theorem m_876 : (.instanceMethod yX6_isAhead : Cond) ∈ jw := jin (jt_4 _ (List.mem_of_getElem? (i := 233) rfl)) rfl
set_option maxRecDepth 100000 in
theorem m_877 : (.selects RX6 yX6_isAhead yX6_isAhead : Cond) ∈ jw := jin (jt_4 _ (List.mem_of_getElem? (i := 234) rfl)) rfl
set_option maxRecDepth 100000 in
theorem m_878 : (.code yX6_isAhead cX6_isAhead 4 (some .boolean) : Cond) ∈ jw := jin (jt_4 _ (List.mem_of_getElem? (i := 235) rfl)) rfl
set_option maxRecDepth 100000 in
theorem m_879 : (.methodLink RX1 55 Lib.Math.min.name : Cond) ∈ jw := jin (jt_6 _ (List.mem_of_getElem? (i := 195) rfl)) rfl
set_option maxRecDepth 100000 in
theorem m_880 : (.methodLink RX1 76 yJ6_numberOfTrailingZeros_0f7a4 : Cond) ∈ jw := jin (jt_6 _ (List.mem_of_getElem? (i := 201) rfl)) rfl
set_option maxRecDepth 100000 in
theorem m_881 : (.static yJ6_numberOfTrailingZeros_0f7a4 : Cond) ∈ jw := jin (jt_6 _ (List.mem_of_getElem? (i := 202) rfl)) rfl
set_option maxRecDepth 100000 in
theorem m_882 : (.initialized RJ6 : Cond) ∈ jw := jin (jt_1 _ (List.mem_of_getElem? (i := 24) rfl)) rfl
set_option maxRecDepth 100000 in
theorem m_883 : (.code yJ6_numberOfTrailingZeros_0f7a4 cJ6_numberOfTrailingZeros_0f7a4 2 (some .int) : Cond) ∈ jw := jin (jt_6 _ (List.mem_of_getElem? (i := 203) rfl)) rfl
set_option maxRecDepth 100000 in
theorem m_884 : (.methodLink RX1 60 Lib.Math.max.name : Cond) ∈ jw := jin (jt_6 _ (List.mem_of_getElem? (i := 196) rfl)) rfl
set_option maxRecDepth 100000 in
theorem m_885 : (.methodLink RX1 63 yX1_sumLacks : Cond) ∈ jw := jin (jt_6 _ (List.mem_of_getElem? (i := 197) rfl)) rfl
set_option maxRecDepth 100000 in
theorem m_886 : (.instanceMethod yX1_sumLacks : Cond) ∈ jw := jin (jt_6 _ (List.mem_of_getElem? (i := 199) rfl)) rfl
set_option maxRecDepth 100000 in
theorem m_887 : (.selects RX1 yX1_sumLacks yX1_sumLacks : Cond) ∈ jw := jin (jt_p _ (List.mem_of_getElem? (i := 80) rfl)) rfl
set_option maxRecDepth 100000 in
theorem m_888 : (.initialized RX1 : Cond) ∈ jw := jin (jt_1 _ (List.mem_of_getElem? (i := 10) rfl)) rfl
set_option maxRecDepth 100000 in
theorem m_889 : (.code yX1_sumLacks cX1_sumLacks 5 none : Cond) ∈ jw := jin (jt_6 _ (List.mem_of_getElem? (i := 200) rfl)) rfl
set_option maxRecDepth 100000 in
theorem m_890 : (.methodLink RX1 71 yJ6_bitCount_0f7a4 : Cond) ∈ jw := jin (jt_6 _ (List.mem_of_getElem? (i := 209) rfl)) rfl
set_option maxRecDepth 100000 in
theorem m_891 : (.static yJ6_bitCount_0f7a4 : Cond) ∈ jw := jin (jt_6 _ (List.mem_of_getElem? (i := 154) rfl)) rfl
set_option maxRecDepth 100000 in
theorem m_892 : (.code yJ6_bitCount_0f7a4 cJ6_bitCount_0f7a4 1 (some .int) : Cond) ∈ jw := jin (jt_6 _ (List.mem_of_getElem? (i := 155) rfl)) rfl
set_option maxRecDepth 100000 in
theorem m_893 : (.methodLink RX1 67 yX1_reachWith : Cond) ∈ jw := jin (jt_6 _ (List.mem_of_getElem? (i := 205) rfl)) rfl
set_option maxRecDepth 100000 in
theorem m_894 : (.instanceMethod yX1_reachWith : Cond) ∈ jw := jin (jt_6 _ (List.mem_of_getElem? (i := 207) rfl)) rfl
set_option maxRecDepth 100000 in
theorem m_895 : (.selects RX1 yX1_reachWith yX1_reachWith : Cond) ∈ jw := jin (jt_p _ (List.mem_of_getElem? (i := 81) rfl)) rfl
set_option maxRecDepth 100000 in
theorem m_896 : (.code yX1_reachWith cX1_reachWith 7 none : Cond) ∈ jw := jin (jt_6 _ (List.mem_of_getElem? (i := 208) rfl)) rfl
set_option maxRecDepth 100000 in
theorem m_897 : (.methodLink RX12 152 Lib.Math.min.name : Cond) ∈ jw := jin (jt_4 _ (List.mem_of_getElem? (i := 75) rfl)) rfl
set_option maxRecDepth 100000 in
theorem m_898 : (.methodLink RX1 44 yX1_handNumber : Cond) ∈ jw := jin (jt_6 _ (List.mem_of_getElem? (i := 222) rfl)) rfl
set_option maxRecDepth 100000 in
theorem m_899 : (.instanceMethod yX1_handNumber : Cond) ∈ jw := jin (jt_6 _ (List.mem_of_getElem? (i := 180) rfl)) rfl
set_option maxRecDepth 100000 in
theorem m_900 : (.selects RX1 yX1_handNumber yX1_handNumber : Cond) ∈ jw := jin (jt_6 _ (List.mem_of_getElem? (i := 181) rfl)) rfl
set_option maxRecDepth 100000 in
theorem m_901 : (.code yX1_handNumber cX1_handNumber 2 (some .int) : Cond) ∈ jw := jin (jt_6 _ (List.mem_of_getElem? (i := 182) rfl)) rfl
set_option maxRecDepth 100000 in
theorem m_902 : (.methodLink RX1 48 yX1_bestFrom : Cond) ∈ jw := jin (jt_6 _ (List.mem_of_getElem? (i := 191) rfl)) rfl
set_option maxRecDepth 100000 in
theorem m_903 : (.instanceMethod yX1_bestFrom : Cond) ∈ jw := jin (jt_6 _ (List.mem_of_getElem? (i := 193) rfl)) rfl
set_option maxRecDepth 100000 in
theorem m_904 : (.selects RX1 yX1_bestFrom yX1_bestFrom : Cond) ∈ jw := jin (jt_p _ (List.mem_of_getElem? (i := 79) rfl)) rfl
set_option maxRecDepth 100000 in
theorem m_905 : (.code yX1_bestFrom cX1_bestFrom 6 (some .int) : Cond) ∈ jw := jin (jt_6 _ (List.mem_of_getElem? (i := 194) rfl)) rfl
set_option maxRecDepth 100000 in
theorem m_906 : (.methodLink RX1 51 yX1_firstHandFor : Cond) ∈ jw := jin (jt_6 _ (List.mem_of_getElem? (i := 210) rfl)) rfl
set_option maxRecDepth 100000 in
theorem m_907 : (.instanceMethod yX1_firstHandFor : Cond) ∈ jw := jin (jt_6 _ (List.mem_of_getElem? (i := 212) rfl)) rfl
set_option maxRecDepth 100000 in
theorem m_908 : (.selects RX1 yX1_firstHandFor yX1_firstHandFor : Cond) ∈ jw := jin (jt_p _ (List.mem_of_getElem? (i := 82) rfl)) rfl
set_option maxRecDepth 100000 in
theorem m_909 : (.code yX1_firstHandFor cX1_firstHandFor 4 (some .int) : Cond) ∈ jw := jin (jt_6 _ (List.mem_of_getElem? (i := 213) rfl)) rfl
set_option maxRecDepth 100000 in
theorem m_910 : (.methodLink RX3 40 Lib.Math.max.name : Cond) ∈ jw := jin (jt_6 _ (List.mem_of_getElem? (i := 116) rfl)) rfl
set_option maxRecDepth 100000 in
theorem m_911 : (.methodLink RX3 43 yX3_sumOf : Cond) ∈ jw := jin (jt_6 _ (List.mem_of_getElem? (i := 121) rfl)) rfl
set_option maxRecDepth 100000 in
theorem m_912 : (.instanceMethod yX3_sumOf : Cond) ∈ jw := jin (jt_6 _ (List.mem_of_getElem? (i := 123) rfl)) rfl
set_option maxRecDepth 100000 in
theorem m_913 : (.selects RX3 yX3_sumOf yX3_sumOf : Cond) ∈ jw := jin (jt_p _ (List.mem_of_getElem? (i := 74) rfl)) rfl
set_option maxRecDepth 100000 in
theorem m_914 : (.initialized RX3 : Cond) ∈ jw := jin (jt_1 _ (List.mem_of_getElem? (i := 9) rfl)) rfl
set_option maxRecDepth 100000 in
theorem m_915 : (.code yX3_sumOf cX3_sumOf 4 (some .int) : Cond) ∈ jw := jin (jt_6 _ (List.mem_of_getElem? (i := 124) rfl)) rfl
set_option maxRecDepth 100000 in
theorem m_916 : (.methodLink RX3 47 yX3_shift : Cond) ∈ jw := jin (jt_6 _ (List.mem_of_getElem? (i := 125) rfl)) rfl
set_option maxRecDepth 100000 in
theorem m_917 : (.instanceMethod yX3_shift : Cond) ∈ jw := jin (jt_6 _ (List.mem_of_getElem? (i := 127) rfl)) rfl
set_option maxRecDepth 100000 in
theorem m_918 : (.selects RX3 yX3_shift yX3_shift : Cond) ∈ jw := jin (jt_p _ (List.mem_of_getElem? (i := 75) rfl)) rfl
set_option maxRecDepth 100000 in
theorem m_919 : (.code yX3_shift cX3_shift 7 none : Cond) ∈ jw := jin (jt_6 _ (List.mem_of_getElem? (i := 128) rfl)) rfl
set_option maxRecDepth 100000 in
theorem m_920 : (.methodLink RX5 53 yX5_tellOn : Cond) ∈ jw := jin (jt_5 _ (List.mem_of_getElem? (i := 119) rfl)) rfl
set_option maxRecDepth 100000 in
theorem m_921 : (.instanceMethod yX5_tellOn : Cond) ∈ jw := jin (jt_5 _ (List.mem_of_getElem? (i := 121) rfl)) rfl
set_option maxRecDepth 100000 in
theorem m_922 : (.selects RX5 yX5_tellOn yX5_tellOn : Cond) ∈ jw := jin (jt_p _ (List.mem_of_getElem? (i := 53) rfl)) rfl
set_option maxRecDepth 100000 in
theorem m_923 : (.initialized RX5 : Cond) ∈ jw := jin (jt_1 _ (List.mem_of_getElem? (i := 7) rfl)) rfl
set_option maxRecDepth 100000 in
theorem m_924 : (.code yX5_tellOn cX5_tellOn 5 (some .int) : Cond) ∈ jw := jin (jt_5 _ (List.mem_of_getElem? (i := 122) rfl)) rfl
set_option maxRecDepth 100000 in
theorem m_925 : (.methodLink RX8 40 yX8_sheetOfPut : Cond) ∈ jw := jin (jt_4 _ (List.mem_of_getElem? (i := 7) rfl)) rfl
set_option maxRecDepth 100000 in
theorem m_926 : (.instanceMethod yX8_sheetOfPut : Cond) ∈ jw := jin (jt_4 _ (List.mem_of_getElem? (i := 9) rfl)) rfl
set_option maxRecDepth 100000 in
theorem m_927 : (.selects RX8 yX8_sheetOfPut yX8_sheetOfPut : Cond) ∈ jw := jin (jt_p _ (List.mem_of_getElem? (i := 29) rfl)) rfl
set_option maxRecDepth 100000 in
theorem m_928 : (.initialized RX8 : Cond) ∈ jw := jin (jt_1 _ (List.mem_of_getElem? (i := 3) rfl)) rfl
set_option maxRecDepth 100000 in
theorem m_929 : (.code yX8_sheetOfPut cX8_sheetOfPut 6 (some (.object "BookOfAll$Sheet")) : Cond) ∈ jw := jin (jt_4 _ (List.mem_of_getElem? (i := 10) rfl)) rfl
set_option maxRecDepth 100000 in
theorem m_930 : (.methodLink RX8 44 yX9_has : Cond) ∈ jw := jin (jt_4 _ (List.mem_of_getElem? (i := 11) rfl)) rfl
set_option maxRecDepth 100000 in
theorem m_931 : (.instanceMethod yX9_has : Cond) ∈ jw := jin (jt_4 _ (List.mem_of_getElem? (i := 12) rfl)) rfl
set_option maxRecDepth 100000 in
theorem m_932 : (.selects RX9 yX9_has yX9_has : Cond) ∈ jw := jin (jt_4 _ (List.mem_of_getElem? (i := 13) rfl)) rfl
set_option maxRecDepth 100000 in
theorem m_933 : (.initialized RX9 : Cond) ∈ jw := jin (jt_1 _ (List.mem_of_getElem? (i := 19) rfl)) rfl
set_option maxRecDepth 100000 in
theorem m_934 : (.code yX9_has cX9_has 2 (some .boolean) : Cond) ∈ jw := jin (jt_4 _ (List.mem_of_getElem? (i := 14) rfl)) rfl
set_option maxRecDepth 100000 in
theorem m_935 : (.constantLong RX8 81 (-1000000) : Cond) ∈ jw := jin (jt_4 _ (List.mem_of_getElem? (i := 22) rfl)) rfl
set_option maxRecDepth 100000 in
theorem m_936 : (.constantLong RX8 83 1000000 : Cond) ∈ jw := jin (jt_4 _ (List.mem_of_getElem? (i := 23) rfl)) rfl
set_option maxRecDepth 100000 in
theorem m_937 : (.methodLink RX8 85 Lib.MathLoose.min_long.x : Cond) ∈ jw := jin (jt_4 _ (List.mem_of_getElem? (i := 24) rfl)) rfl
set_option maxRecDepth 100000 in
theorem m_938 : (.static Lib.MathLoose.min_long.x : Cond) ∈ jw := jin (jt_4 _ (List.mem_of_getElem? (i := 25) rfl)) rfl
set_option maxRecDepth 100000 in
theorem m_939 : (.code Lib.MathLoose.min_long.x Lib.MathLoose.min_long.code 4 (some .long) : Cond) ∈ jw := jin (jt_4 _ (List.mem_of_getElem? (i := 26) rfl)) rfl
set_option maxRecDepth 100000 in
theorem m_940 : (.methodLink RX8 91 Lib.MathLoose.max_long.x : Cond) ∈ jw := jin (jt_4 _ (List.mem_of_getElem? (i := 27) rfl)) rfl
set_option maxRecDepth 100000 in
theorem m_941 : (.static Lib.MathLoose.max_long.x : Cond) ∈ jw := jin (jt_4 _ (List.mem_of_getElem? (i := 28) rfl)) rfl
set_option maxRecDepth 100000 in
theorem m_942 : (.code Lib.MathLoose.max_long.x Lib.MathLoose.max_long.code 4 (some .long) : Cond) ∈ jw := jin (jt_4 _ (List.mem_of_getElem? (i := 29) rfl)) rfl
set_option maxRecDepth 100000 in
theorem m_943 : (.methodLink RX8 78 yX8_combine : Cond) ∈ jw := jin (jt_4 _ (List.mem_of_getElem? (i := 19) rfl)) rfl
set_option maxRecDepth 100000 in
theorem m_944 : (.static yX8_combine : Cond) ∈ jw := jin (jt_4 _ (List.mem_of_getElem? (i := 20) rfl)) rfl
set_option maxRecDepth 100000 in
theorem m_945 : (.code yX8_combine cX8_combine 5 (some .int) : Cond) ∈ jw := jin (jt_4 _ (List.mem_of_getElem? (i := 21) rfl)) rfl
set_option maxRecDepth 100000 in
theorem m_946 : (.fieldLink RX8 58 "BookOfAll$Rules" "WITHOUT" "[I" : Cond) ∈ jw := jin (jt_4 _ (List.mem_of_getElem? (i := 1) rfl)) rfl
set_option maxRecDepth 100000 in
theorem m_947 : (.methodLink RX8 61 yX8_inForce : Cond) ∈ jw := jin (jt_4 _ (List.mem_of_getElem? (i := 3) rfl)) rfl
set_option maxRecDepth 100000 in
theorem m_948 : (.instanceMethod yX8_inForce : Cond) ∈ jw := jin (jt_4 _ (List.mem_of_getElem? (i := 4) rfl)) rfl
set_option maxRecDepth 100000 in
theorem m_949 : (.selects RX8 yX8_inForce yX8_inForce : Cond) ∈ jw := jin (jt_4 _ (List.mem_of_getElem? (i := 5) rfl)) rfl
set_option maxRecDepth 100000 in
theorem m_950 : (.code yX8_inForce cX8_inForce 6 (some .int) : Cond) ∈ jw := jin (jt_4 _ (List.mem_of_getElem? (i := 6) rfl)) rfl
set_option maxRecDepth 100000 in
theorem m_951 : (.methodLink RX8 65 yX8_run : Cond) ∈ jw := jin (jt_4 _ (List.mem_of_getElem? (i := 15) rfl)) rfl
set_option maxRecDepth 100000 in
theorem m_952 : (.instanceMethod yX8_run : Cond) ∈ jw := jin (jt_4 _ (List.mem_of_getElem? (i := 17) rfl)) rfl
set_option maxRecDepth 100000 in
theorem m_953 : (.selects RX8 yX8_run yX8_run : Cond) ∈ jw := jin (jt_p _ (List.mem_of_getElem? (i := 30) rfl)) rfl
set_option maxRecDepth 100000 in
theorem m_954 : (.code yX8_run cX8_run 7 (some .int) : Cond) ∈ jw := jin (jt_4 _ (List.mem_of_getElem? (i := 18) rfl)) rfl
set_option maxRecDepth 100000 in
theorem m_955 : (.methodLink RX6 26 yX8_valueOf : Cond) ∈ jw := jin (jt_3 _ (List.mem_of_getElem? (i := 237) rfl)) rfl
set_option maxRecDepth 100000 in
theorem m_956 : (.instanceMethod yX8_valueOf : Cond) ∈ jw := jin (jt_3 _ (List.mem_of_getElem? (i := 238) rfl)) rfl
set_option maxRecDepth 100000 in
theorem m_957 : (.selects RX8 yX8_valueOf yX8_valueOf : Cond) ∈ jw := jin (jt_3 _ (List.mem_of_getElem? (i := 239) rfl)) rfl
set_option maxRecDepth 100000 in
theorem m_958 : (.code yX8_valueOf cX8_valueOf 6 (some .int) : Cond) ∈ jw := jin (jt_4 _ (List.mem_of_getElem? (i := 0) rfl)) rfl
set_option maxRecDepth 100000 in
theorem m_959 : (.methodLink RX8 48 yX9_hasWord : Cond) ∈ jw := jin (jt_4 _ (List.mem_of_getElem? (i := 46) rfl)) rfl
set_option maxRecDepth 100000 in
theorem m_960 : (.instanceMethod yX9_hasWord : Cond) ∈ jw := jin (jt_4 _ (List.mem_of_getElem? (i := 47) rfl)) rfl
set_option maxRecDepth 100000 in
theorem m_961 : (.selects RX9 yX9_hasWord yX9_hasWord : Cond) ∈ jw := jin (jt_4 _ (List.mem_of_getElem? (i := 48) rfl)) rfl
set_option maxRecDepth 100000 in
theorem m_962 : (.code yX9_hasWord cX9_hasWord 4 (some .boolean) : Cond) ∈ jw := jin (jt_4 _ (List.mem_of_getElem? (i := 49) rfl)) rfl
set_option maxRecDepth 100000 in
theorem m_963 : (.methodLink RX6 47 yX8_skips : Cond) ∈ jw := jin (jt_4 _ (List.mem_of_getElem? (i := 42) rfl)) rfl
set_option maxRecDepth 100000 in
theorem m_964 : (.instanceMethod yX8_skips : Cond) ∈ jw := jin (jt_4 _ (List.mem_of_getElem? (i := 43) rfl)) rfl
set_option maxRecDepth 100000 in
theorem m_965 : (.selects RX8 yX8_skips yX8_skips : Cond) ∈ jw := jin (jt_4 _ (List.mem_of_getElem? (i := 44) rfl)) rfl
set_option maxRecDepth 100000 in
theorem m_966 : (.code yX8_skips cX8_skips 7 (some .boolean) : Cond) ∈ jw := jin (jt_4 _ (List.mem_of_getElem? (i := 45) rfl)) rfl
set_option maxRecDepth 100000 in
theorem m_967 : (.methodLink RX10 22 Lib.Math.min.name : Cond) ∈ jw := jin (jt_7 _ (List.mem_of_getElem? (i := 15) rfl)) rfl
set_option maxRecDepth 100000 in
theorem m_968 : (.methodLink RX10 28 yX10_weightOfAll : Cond) ∈ jw := jin (jt_7 _ (List.mem_of_getElem? (i := 20) rfl)) rfl
set_option maxRecDepth 100000 in
theorem m_969 : (.instanceMethod yX10_weightOfAll : Cond) ∈ jw := jin (jt_7 _ (List.mem_of_getElem? (i := 22) rfl)) rfl
set_option maxRecDepth 100000 in
theorem m_970 : (.selects RX10 yX10_weightOfAll yX10_weightOfAll : Cond) ∈ jw := jin (jt_p _ (List.mem_of_getElem? (i := 83) rfl)) rfl
set_option maxRecDepth 100000 in
theorem m_971 : (.initialized RX10 : Cond) ∈ jw := jin (jt_1 _ (List.mem_of_getElem? (i := 11) rfl)) rfl
set_option maxRecDepth 100000 in
theorem m_972 : (.code yX10_weightOfAll cX10_weightOfAll 1 (some .int) : Cond) ∈ jw := jin (jt_7 _ (List.mem_of_getElem? (i := 23) rfl)) rfl
set_option maxRecDepth 100000 in
theorem m_973 : (.methodLink RX10 32 yX10_changes : Cond) ∈ jw := jin (jt_7 _ (List.mem_of_getElem? (i := 28) rfl)) rfl
set_option maxRecDepth 100000 in
theorem m_974 : (.instanceMethod yX10_changes : Cond) ∈ jw := jin (jt_7 _ (List.mem_of_getElem? (i := 17) rfl)) rfl
set_option maxRecDepth 100000 in
theorem m_975 : (.selects RX10 yX10_changes yX10_changes : Cond) ∈ jw := jin (jt_7 _ (List.mem_of_getElem? (i := 18) rfl)) rfl
set_option maxRecDepth 100000 in
theorem m_976 : (.code yX10_changes cX10_changes 1 (some .int) : Cond) ∈ jw := jin (jt_7 _ (List.mem_of_getElem? (i := 19) rfl)) rfl
set_option maxRecDepth 100000 in
theorem m_977 : (.methodLink RX12 107 yX7_append : Cond) ∈ jw := jin (jt_2 _ (List.mem_of_getElem? (i := 150) rfl)) rfl
set_option maxRecDepth 100000 in
theorem m_978 : (.instanceMethod yX7_append : Cond) ∈ jw := jin (jt_2 _ (List.mem_of_getElem? (i := 151) rfl)) rfl
set_option maxRecDepth 100000 in
theorem m_979 : (.selects RX7 yX7_append yX7_append : Cond) ∈ jw := jin (jt_2 _ (List.mem_of_getElem? (i := 152) rfl)) rfl
set_option maxRecDepth 100000 in
theorem m_980 : (.code yX7_append cX7_append 3 none : Cond) ∈ jw := jin (jt_2 _ (List.mem_of_getElem? (i := 153) rfl)) rfl
set_option maxRecDepth 100000 in
theorem m_981 : (.methodLink RX12 110 yX7_parse : Cond) ∈ jw := jin (jt_2 _ (List.mem_of_getElem? (i := 162) rfl)) rfl
set_option maxRecDepth 100000 in
theorem m_982 : (.instanceMethod yX7_parse : Cond) ∈ jw := jin (jt_2 _ (List.mem_of_getElem? (i := 163) rfl)) rfl
set_option maxRecDepth 100000 in
theorem m_983 : (.selects RX7 yX7_parse yX7_parse : Cond) ∈ jw := jin (jt_2 _ (List.mem_of_getElem? (i := 164) rfl)) rfl
set_option maxRecDepth 100000 in
theorem m_984 : (.code yX7_parse cX7_parse 2 (some .int) : Cond) ∈ jw := jin (jt_2 _ (List.mem_of_getElem? (i := 165) rfl)) rfl
set_option maxRecDepth 100000 in
theorem m_985 : (.methodLink RX12 126 yX12_isVolume : Cond) ∈ jw := jin (jt_3 _ (List.mem_of_getElem? (i := 217) rfl)) rfl
set_option maxRecDepth 100000 in
theorem m_986 : (.instanceMethod yX12_isVolume : Cond) ∈ jw := jin (jt_3 _ (List.mem_of_getElem? (i := 219) rfl)) rfl
set_option maxRecDepth 100000 in
theorem m_987 : (.selects RX12 yX12_isVolume yX12_isVolume : Cond) ∈ jw := jin (jt_p _ (List.mem_of_getElem? (i := 26) rfl)) rfl
set_option maxRecDepth 100000 in
theorem m_988 : (.code yX12_isVolume cX12_isVolume 2 (some .boolean) : Cond) ∈ jw := jin (jt_3 _ (List.mem_of_getElem? (i := 220) rfl)) rfl
set_option maxRecDepth 100000 in
theorem m_989 : (.methodLink RX12 166 yX12_volumeAt : Cond) ∈ jw := jin (jt_4 _ (List.mem_of_getElem? (i := 59) rfl)) rfl
set_option maxRecDepth 100000 in
theorem m_990 : (.instanceMethod yX12_volumeAt : Cond) ∈ jw := jin (jt_4 _ (List.mem_of_getElem? (i := 61) rfl)) rfl
set_option maxRecDepth 100000 in
theorem m_991 : (.selects RX12 yX12_volumeAt yX12_volumeAt : Cond) ∈ jw := jin (jt_p _ (List.mem_of_getElem? (i := 34) rfl)) rfl
set_option maxRecDepth 100000 in
theorem m_992 : (.code yX12_volumeAt cX12_volumeAt 2 (some (.object "BookOfAll$Volume")) : Cond) ∈ jw := jin (jt_4 _ (List.mem_of_getElem? (i := 62) rfl)) rfl
set_option maxRecDepth 100000 in
theorem m_993 : (.methodLink RX12 223 yX6_prepare : Cond) ∈ jw := jin (jt_4 _ (List.mem_of_getElem? (i := 38) rfl)) rfl
set_option maxRecDepth 100000 in
theorem m_994 : (.instanceMethod yX6_prepare : Cond) ∈ jw := jin (jt_4 _ (List.mem_of_getElem? (i := 39) rfl)) rfl
set_option maxRecDepth 100000 in
theorem m_995 : (.selects RX6 yX6_prepare yX6_prepare : Cond) ∈ jw := jin (jt_4 _ (List.mem_of_getElem? (i := 40) rfl)) rfl
set_option maxRecDepth 100000 in
theorem m_996 : (.code yX6_prepare cX6_prepare 3 none : Cond) ∈ jw := jin (jt_4 _ (List.mem_of_getElem? (i := 41) rfl)) rfl
set_option maxRecDepth 100000 in
theorem m_997 : (.methodLink RX12 230 yX0_byteAt : Cond) ∈ jw := jin (jt_4 _ (List.mem_of_getElem? (i := 50) rfl)) rfl
set_option maxRecDepth 100000 in
theorem m_998 : (.methodLink RX12 233 yX0_isDigit : Cond) ∈ jw := jin (jt_4 _ (List.mem_of_getElem? (i := 54) rfl)) rfl
set_option maxRecDepth 100000 in
theorem m_999 : (.methodLink RX12 161 yX12_lastLetter : Cond) ∈ jw := jin (jt_4 _ (List.mem_of_getElem? (i := 55) rfl)) rfl
set_option maxRecDepth 100000 in
theorem m_1000 : (.instanceMethod yX12_lastLetter : Cond) ∈ jw := jin (jt_4 _ (List.mem_of_getElem? (i := 57) rfl)) rfl
set_option maxRecDepth 100000 in
theorem m_1001 : (.selects RX12 yX12_lastLetter yX12_lastLetter : Cond) ∈ jw := jin (jt_p _ (List.mem_of_getElem? (i := 33) rfl)) rfl
set_option maxRecDepth 100000 in
theorem m_1002 : (.code yX12_lastLetter cX12_lastLetter 3 (some .int) : Cond) ∈ jw := jin (jt_4 _ (List.mem_of_getElem? (i := 58) rfl)) rfl
set_option maxRecDepth 100000 in
theorem m_1003 : (.methodLink RX12 212 yX6_take : Cond) ∈ jw := jin (jt_3 _ (List.mem_of_getElem? (i := 233) rfl)) rfl
set_option maxRecDepth 100000 in
theorem m_1004 : (.instanceMethod yX6_take : Cond) ∈ jw := jin (jt_3 _ (List.mem_of_getElem? (i := 234) rfl)) rfl
set_option maxRecDepth 100000 in
theorem m_1005 : (.selects RX6 yX6_take yX6_take : Cond) ∈ jw := jin (jt_3 _ (List.mem_of_getElem? (i := 235) rfl)) rfl
set_option maxRecDepth 100000 in
theorem m_1006 : (.code yX6_take cX6_take 3 none : Cond) ∈ jw := jin (jt_3 _ (List.mem_of_getElem? (i := 236) rfl)) rfl
set_option maxRecDepth 100000 in
theorem m_1007 : (.methodLink RX12 216 yX12_volumeByKey : Cond) ∈ jw := jin (jt_4 _ (List.mem_of_getElem? (i := 34) rfl)) rfl
set_option maxRecDepth 100000 in
theorem m_1008 : (.instanceMethod yX12_volumeByKey : Cond) ∈ jw := jin (jt_4 _ (List.mem_of_getElem? (i := 36) rfl)) rfl
set_option maxRecDepth 100000 in
theorem m_1009 : (.selects RX12 yX12_volumeByKey yX12_volumeByKey : Cond) ∈ jw := jin (jt_p _ (List.mem_of_getElem? (i := 32) rfl)) rfl
set_option maxRecDepth 100000 in
theorem m_1010 : (.code yX12_volumeByKey cX12_volumeByKey 5 (some .int) : Cond) ∈ jw := jin (jt_4 _ (List.mem_of_getElem? (i := 37) rfl)) rfl
set_option maxRecDepth 100000 in
theorem m_1011 : (.methodLink RX12 136 yX8_put : Cond) ∈ jw := jin (jt_3 _ (List.mem_of_getElem? (i := 225) rfl)) rfl
set_option maxRecDepth 100000 in
theorem m_1012 : (.instanceMethod yX8_put : Cond) ∈ jw := jin (jt_3 _ (List.mem_of_getElem? (i := 226) rfl)) rfl
set_option maxRecDepth 100000 in
theorem m_1013 : (.selects RX8 yX8_put yX8_put : Cond) ∈ jw := jin (jt_3 _ (List.mem_of_getElem? (i := 227) rfl)) rfl
set_option maxRecDepth 100000 in
theorem m_1014 : (.code yX8_put cX8_put 4 (some .int) : Cond) ∈ jw := jin (jt_3 _ (List.mem_of_getElem? (i := 228) rfl)) rfl
set_option maxRecDepth 100000 in
theorem m_1015 : (.methodLink RX12 140 yX12_sortIntoVolumes : Cond) ∈ jw := jin (jt_3 _ (List.mem_of_getElem? (i := 229) rfl)) rfl
set_option maxRecDepth 100000 in
theorem m_1016 : (.instanceMethod yX12_sortIntoVolumes : Cond) ∈ jw := jin (jt_3 _ (List.mem_of_getElem? (i := 231) rfl)) rfl
set_option maxRecDepth 100000 in
theorem m_1017 : (.selects RX12 yX12_sortIntoVolumes yX12_sortIntoVolumes : Cond) ∈ jw := jin (jt_p _ (List.mem_of_getElem? (i := 28) rfl)) rfl
set_option maxRecDepth 100000 in
theorem m_1018 : (.code yX12_sortIntoVolumes cX12_sortIntoVolumes 3 none : Cond) ∈ jw := jin (jt_3 _ (List.mem_of_getElem? (i := 232) rfl)) rfl
set_option maxRecDepth 100000 in
theorem m_1019 : (.methodLink RX12 130 yX12_isSet : Cond) ∈ jw := jin (jt_3 _ (List.mem_of_getElem? (i := 221) rfl)) rfl
set_option maxRecDepth 100000 in
theorem m_1020 : (.instanceMethod yX12_isSet : Cond) ∈ jw := jin (jt_3 _ (List.mem_of_getElem? (i := 223) rfl)) rfl
set_option maxRecDepth 100000 in
theorem m_1021 : (.selects RX12 yX12_isSet yX12_isSet : Cond) ∈ jw := jin (jt_p _ (List.mem_of_getElem? (i := 27) rfl)) rfl
set_option maxRecDepth 100000 in
theorem m_1022 : (.code yX12_isSet cX12_isSet 2 (some .boolean) : Cond) ∈ jw := jin (jt_3 _ (List.mem_of_getElem? (i := 224) rfl)) rfl
set_option maxRecDepth 100000 in
theorem m_1023 : (.methodLink RX12 143 yX9_sortOf : Cond) ∈ jw := jin (jt_4 _ (List.mem_of_getElem? (i := 67) rfl)) rfl
set_option maxRecDepth 100000 in
theorem m_1024 : (.static yX9_sortOf : Cond) ∈ jw := jin (jt_4 _ (List.mem_of_getElem? (i := 68) rfl)) rfl
set_option maxRecDepth 100000 in
theorem m_1025 : (.code yX9_sortOf cX9_sortOf 3 (some .int) : Cond) ∈ jw := jin (jt_4 _ (List.mem_of_getElem? (i := 69) rfl)) rfl
set_option maxRecDepth 100000 in
theorem m_1026 : (.methodLink RX12 149 yX8_inForce : Cond) ∈ jw := jin (jt_4 _ (List.mem_of_getElem? (i := 70) rfl)) rfl
set_option maxRecDepth 100000 in
theorem m_1027 : (.methodLink RX12 243 yX12_entryOfKind : Cond) ∈ jw := jin (jt_4 _ (List.mem_of_getElem? (i := 192) rfl)) rfl
set_option maxRecDepth 100000 in
theorem m_1028 : (.instanceMethod yX12_entryOfKind : Cond) ∈ jw := jin (jt_4 _ (List.mem_of_getElem? (i := 194) rfl)) rfl
set_option maxRecDepth 100000 in
theorem m_1029 : (.selects RX12 yX12_entryOfKind yX12_entryOfKind : Cond) ∈ jw := jin (jt_p _ (List.mem_of_getElem? (i := 37) rfl)) rfl
set_option maxRecDepth 100000 in
theorem m_1030 : (.code yX12_entryOfKind cX12_entryOfKind 4 (some (.object "BookOfAll$Entry")) : Cond) ∈ jw := jin (jt_4 _ (List.mem_of_getElem? (i := 195) rfl)) rfl
set_option maxRecDepth 100000 in
theorem m_1031 : (.methodLink RX12 256 yX12_isLater : Cond) ∈ jw := jin (jt_4 _ (List.mem_of_getElem? (i := 204) rfl)) rfl
set_option maxRecDepth 100000 in
theorem m_1032 : (.instanceMethod yX12_isLater : Cond) ∈ jw := jin (jt_4 _ (List.mem_of_getElem? (i := 206) rfl)) rfl
set_option maxRecDepth 100000 in
theorem m_1033 : (.selects RX12 yX12_isLater yX12_isLater : Cond) ∈ jw := jin (jt_p _ (List.mem_of_getElem? (i := 39) rfl)) rfl
set_option maxRecDepth 100000 in
theorem m_1034 : (.code yX12_isLater cX12_isLater 2 (some .boolean) : Cond) ∈ jw := jin (jt_4 _ (List.mem_of_getElem? (i := 207) rfl)) rfl
set_option maxRecDepth 100000 in
theorem m_1035 : (.methodLink RX12 250 yX12_sendAway : Cond) ∈ jw := jin (jt_4 _ (List.mem_of_getElem? (i := 200) rfl)) rfl
set_option maxRecDepth 100000 in
theorem m_1036 : (.instanceMethod yX12_sendAway : Cond) ∈ jw := jin (jt_4 _ (List.mem_of_getElem? (i := 202) rfl)) rfl
set_option maxRecDepth 100000 in
theorem m_1037 : (.selects RX12 yX12_sendAway yX12_sendAway : Cond) ∈ jw := jin (jt_p _ (List.mem_of_getElem? (i := 38) rfl)) rfl
set_option maxRecDepth 100000 in
theorem m_1038 : (.code yX12_sendAway cX12_sendAway 4 (some .boolean) : Cond) ∈ jw := jin (jt_4 _ (List.mem_of_getElem? (i := 203) rfl)) rfl
set_option maxRecDepth 100000 in
theorem m_1039 : (.methodLink RX12 260 yX12_standing : Cond) ∈ jw := jin (jt_4 _ (List.mem_of_getElem? (i := 216) rfl)) rfl
set_option maxRecDepth 100000 in
theorem m_1040 : (.instanceMethod yX12_standing : Cond) ∈ jw := jin (jt_4 _ (List.mem_of_getElem? (i := 218) rfl)) rfl
set_option maxRecDepth 100000 in
theorem m_1041 : (.selects RX12 yX12_standing yX12_standing : Cond) ∈ jw := jin (jt_p _ (List.mem_of_getElem? (i := 40) rfl)) rfl
set_option maxRecDepth 100000 in
theorem m_1042 : (.code yX12_standing cX12_standing 2 (some .int) : Cond) ∈ jw := jin (jt_4 _ (List.mem_of_getElem? (i := 219) rfl)) rfl
set_option maxRecDepth 100000 in
theorem m_1043 : (.methodLink RX12 271 yX12_insertIntoRow : Cond) ∈ jw := jin (jt_4 _ (List.mem_of_getElem? (i := 228) rfl)) rfl
set_option maxRecDepth 100000 in
theorem m_1044 : (.instanceMethod yX12_insertIntoRow : Cond) ∈ jw := jin (jt_4 _ (List.mem_of_getElem? (i := 230) rfl)) rfl
set_option maxRecDepth 100000 in
theorem m_1045 : (.selects RX12 yX12_insertIntoRow yX12_insertIntoRow : Cond) ∈ jw := jin (jt_p _ (List.mem_of_getElem? (i := 42) rfl)) rfl
set_option maxRecDepth 100000 in
theorem m_1046 : (.code yX12_insertIntoRow cX12_insertIntoRow 7 none : Cond) ∈ jw := jin (jt_4 _ (List.mem_of_getElem? (i := 231) rfl)) rfl
set_option maxRecDepth 100000 in
theorem m_1047 : (.methodLink RX12 265 yX12_arrange : Cond) ∈ jw := jin (jt_4 _ (List.mem_of_getElem? (i := 224) rfl)) rfl
set_option maxRecDepth 100000 in
theorem m_1048 : (.instanceMethod yX12_arrange : Cond) ∈ jw := jin (jt_4 _ (List.mem_of_getElem? (i := 226) rfl)) rfl
set_option maxRecDepth 100000 in
theorem m_1049 : (.selects RX12 yX12_arrange yX12_arrange : Cond) ∈ jw := jin (jt_p _ (List.mem_of_getElem? (i := 41) rfl)) rfl
set_option maxRecDepth 100000 in
theorem m_1050 : (.code yX12_arrange cX12_arrange 4 none : Cond) ∈ jw := jin (jt_4 _ (List.mem_of_getElem? (i := 227) rfl)) rfl
set_option maxRecDepth 100000 in
theorem m_1051 : (.methodLink RX12 284 yX6_compareKeys : Cond) ∈ jw := jin (jt_5 _ (List.mem_of_getElem? (i := 10) rfl)) rfl
set_option maxRecDepth 100000 in
theorem m_1052 : (.methodLink RX12 288 yX6_turn : Cond) ∈ jw := jin (jt_5 _ (List.mem_of_getElem? (i := 11) rfl)) rfl
set_option maxRecDepth 100000 in
theorem m_1053 : (.instanceMethod yX6_turn : Cond) ∈ jw := jin (jt_5 _ (List.mem_of_getElem? (i := 12) rfl)) rfl
set_option maxRecDepth 100000 in
theorem m_1054 : (.selects RX6 yX6_turn yX6_turn : Cond) ∈ jw := jin (jt_5 _ (List.mem_of_getElem? (i := 13) rfl)) rfl
set_option maxRecDepth 100000 in
theorem m_1055 : (.code yX6_turn cX6_turn 2 none : Cond) ∈ jw := jin (jt_5 _ (List.mem_of_getElem? (i := 14) rfl)) rfl
set_option maxRecDepth 100000 in
theorem m_1056 : (.methodLink RX12 296 yX12_handAt : Cond) ∈ jw := jin (jt_5 _ (List.mem_of_getElem? (i := 52) rfl)) rfl
set_option maxRecDepth 100000 in
theorem m_1057 : (.instanceMethod yX12_handAt : Cond) ∈ jw := jin (jt_5 _ (List.mem_of_getElem? (i := 54) rfl)) rfl
set_option maxRecDepth 100000 in
theorem m_1058 : (.selects RX12 yX12_handAt yX12_handAt : Cond) ∈ jw := jin (jt_p _ (List.mem_of_getElem? (i := 44) rfl)) rfl
set_option maxRecDepth 100000 in
theorem m_1059 : (.code yX12_handAt cX12_handAt 2 (some (.object "BookOfAll$Hand")) : Cond) ∈ jw := jin (jt_5 _ (List.mem_of_getElem? (i := 55) rfl)) rfl
set_option maxRecDepth 100000 in
theorem m_1060 : (.methodLink RX12 319 yX12_isStruck : Cond) ∈ jw := jin (jt_5 _ (List.mem_of_getElem? (i := 72) rfl)) rfl
set_option maxRecDepth 100000 in
theorem m_1061 : (.instanceMethod yX12_isStruck : Cond) ∈ jw := jin (jt_5 _ (List.mem_of_getElem? (i := 74) rfl)) rfl
set_option maxRecDepth 100000 in
theorem m_1062 : (.selects RX12 yX12_isStruck yX12_isStruck : Cond) ∈ jw := jin (jt_p _ (List.mem_of_getElem? (i := 47) rfl)) rfl
set_option maxRecDepth 100000 in
theorem m_1063 : (.code yX12_isStruck cX12_isStruck 2 (some .boolean) : Cond) ∈ jw := jin (jt_5 _ (List.mem_of_getElem? (i := 75) rfl)) rfl
set_option maxRecDepth 100000 in
theorem m_1064 : (.methodLink RX12 367 yX0_isUnfinishedOf : Cond) ∈ jw := jin (jt_5 _ (List.mem_of_getElem? (i := 102) rfl)) rfl
set_option maxRecDepth 100000 in
theorem m_1065 : (.instanceMethod yX0_isUnfinishedOf : Cond) ∈ jw := jin (jt_5 _ (List.mem_of_getElem? (i := 103) rfl)) rfl
set_option maxRecDepth 100000 in
theorem m_1066 : (.selects RX0 yX0_isUnfinishedOf yX0_isUnfinishedOf : Cond) ∈ jw := jin (jt_5 _ (List.mem_of_getElem? (i := 104) rfl)) rfl
set_option maxRecDepth 100000 in
theorem m_1067 : (.code yX0_isUnfinishedOf cX0_isUnfinishedOf 2 (some .boolean) : Cond) ∈ jw := jin (jt_5 _ (List.mem_of_getElem? (i := 105) rfl)) rfl
set_option maxRecDepth 100000 in
theorem m_1068 : (.methodLink RX12 339 yX8_name : Cond) ∈ jw := jin (jt_5 _ (List.mem_of_getElem? (i := 84) rfl)) rfl
set_option maxRecDepth 100000 in
theorem m_1069 : (.instanceMethod yX8_name : Cond) ∈ jw := jin (jt_5 _ (List.mem_of_getElem? (i := 85) rfl)) rfl
set_option maxRecDepth 100000 in
theorem m_1070 : (.selects RX8 yX8_name yX8_name : Cond) ∈ jw := jin (jt_5 _ (List.mem_of_getElem? (i := 86) rfl)) rfl
set_option maxRecDepth 100000 in
theorem m_1071 : (.code yX8_name cX8_name 3 none : Cond) ∈ jw := jin (jt_5 _ (List.mem_of_getElem? (i := 87) rfl)) rfl
set_option maxRecDepth 100000 in
theorem m_1072 : (.methodLink RX12 349 yJ13_bitCount_95d88 : Cond) ∈ jw := jin (jt_5 _ (List.mem_of_getElem? (i := 88) rfl)) rfl
set_option maxRecDepth 100000 in
theorem m_1073 : (.static yJ13_bitCount_95d88 : Cond) ∈ jw := jin (jt_5 _ (List.mem_of_getElem? (i := 89) rfl)) rfl
set_option maxRecDepth 100000 in
theorem m_1074 : (.initialized RJ13 : Cond) ∈ jw := jin (jt_1 _ (List.mem_of_getElem? (i := 22) rfl)) rfl
set_option maxRecDepth 100000 in
theorem m_1075 : (.code yJ13_bitCount_95d88 cJ13_bitCount_95d88 2 (some .int) : Cond) ∈ jw := jin (jt_5 _ (List.mem_of_getElem? (i := 90) rfl)) rfl
set_option maxRecDepth 100000 in
theorem m_1076 : (.methodLink RX12 355 yX12_pointersTo : Cond) ∈ jw := jin (jt_5 _ (List.mem_of_getElem? (i := 94) rfl)) rfl
set_option maxRecDepth 100000 in
theorem m_1077 : (.instanceMethod yX12_pointersTo : Cond) ∈ jw := jin (jt_5 _ (List.mem_of_getElem? (i := 96) rfl)) rfl
set_option maxRecDepth 100000 in
theorem m_1078 : (.selects RX12 yX12_pointersTo yX12_pointersTo : Cond) ∈ jw := jin (jt_p _ (List.mem_of_getElem? (i := 50) rfl)) rfl
set_option maxRecDepth 100000 in
theorem m_1079 : (.code yX12_pointersTo cX12_pointersTo 5 (some .int) : Cond) ∈ jw := jin (jt_5 _ (List.mem_of_getElem? (i := 97) rfl)) rfl
set_option maxRecDepth 100000 in
theorem m_1080 : (.methodLink RX12 364 yX12_unfinished : Cond) ∈ jw := jin (jt_5 _ (List.mem_of_getElem? (i := 98) rfl)) rfl
set_option maxRecDepth 100000 in
theorem m_1081 : (.instanceMethod yX12_unfinished : Cond) ∈ jw := jin (jt_5 _ (List.mem_of_getElem? (i := 100) rfl)) rfl
set_option maxRecDepth 100000 in
theorem m_1082 : (.selects RX12 yX12_unfinished yX12_unfinished : Cond) ∈ jw := jin (jt_p _ (List.mem_of_getElem? (i := 51) rfl)) rfl
set_option maxRecDepth 100000 in
theorem m_1083 : (.code yX12_unfinished cX12_unfinished 5 (some .int) : Cond) ∈ jw := jin (jt_5 _ (List.mem_of_getElem? (i := 101) rfl)) rfl
set_option maxRecDepth 100000 in
theorem m_1084 : (.methodLink RX12 332 yX12_ask : Cond) ∈ jw := jin (jt_5 _ (List.mem_of_getElem? (i := 80) rfl)) rfl
set_option maxRecDepth 100000 in
theorem m_1085 : (.instanceMethod yX12_ask : Cond) ∈ jw := jin (jt_5 _ (List.mem_of_getElem? (i := 82) rfl)) rfl
set_option maxRecDepth 100000 in
theorem m_1086 : (.selects RX12 yX12_ask yX12_ask : Cond) ∈ jw := jin (jt_p _ (List.mem_of_getElem? (i := 49) rfl)) rfl
set_option maxRecDepth 100000 in
theorem m_1087 : (.code yX12_ask cX12_ask 5 none : Cond) ∈ jw := jin (jt_5 _ (List.mem_of_getElem? (i := 83) rfl)) rfl
set_option maxRecDepth 100000 in
theorem m_1088 : (.methodLink RX12 336 yX8_valueOf : Cond) ∈ jw := jin (jt_5 _ (List.mem_of_getElem? (i := 106) rfl)) rfl
set_option maxRecDepth 100000 in
theorem m_1089 : (.methodLink RX12 316 yX12_livingHandAt : Cond) ∈ jw := jin (jt_5 _ (List.mem_of_getElem? (i := 68) rfl)) rfl
set_option maxRecDepth 100000 in
theorem m_1090 : (.instanceMethod yX12_livingHandAt : Cond) ∈ jw := jin (jt_5 _ (List.mem_of_getElem? (i := 70) rfl)) rfl
set_option maxRecDepth 100000 in
theorem m_1091 : (.selects RX12 yX12_livingHandAt yX12_livingHandAt : Cond) ∈ jw := jin (jt_p _ (List.mem_of_getElem? (i := 46) rfl)) rfl
set_option maxRecDepth 100000 in
theorem m_1092 : (.code yX12_livingHandAt cX12_livingHandAt 3 (some (.object "BookOfAll$Hand")) : Cond) ∈ jw := jin (jt_5 _ (List.mem_of_getElem? (i := 71) rfl)) rfl
set_option maxRecDepth 100000 in
theorem m_1093 : (.methodLink RX12 328 yX12_valueFor : Cond) ∈ jw := jin (jt_5 _ (List.mem_of_getElem? (i := 76) rfl)) rfl
set_option maxRecDepth 100000 in
theorem m_1094 : (.instanceMethod yX12_valueFor : Cond) ∈ jw := jin (jt_5 _ (List.mem_of_getElem? (i := 78) rfl)) rfl
set_option maxRecDepth 100000 in
theorem m_1095 : (.selects RX12 yX12_valueFor yX12_valueFor : Cond) ∈ jw := jin (jt_p _ (List.mem_of_getElem? (i := 48) rfl)) rfl
set_option maxRecDepth 100000 in
theorem m_1096 : (.code yX12_valueFor cX12_valueFor 5 (some .int) : Cond) ∈ jw := jin (jt_5 _ (List.mem_of_getElem? (i := 79) rfl)) rfl
set_option maxRecDepth 100000 in
theorem m_1097 : (.methodLink RX12 306 yX0_isDone : Cond) ∈ jw := jin (jt_5 _ (List.mem_of_getElem? (i := 60) rfl)) rfl
set_option maxRecDepth 100000 in
theorem m_1098 : (.instanceMethod yX0_isDone : Cond) ∈ jw := jin (jt_5 _ (List.mem_of_getElem? (i := 61) rfl)) rfl
set_option maxRecDepth 100000 in
theorem m_1099 : (.selects RX0 yX0_isDone yX0_isDone : Cond) ∈ jw := jin (jt_5 _ (List.mem_of_getElem? (i := 62) rfl)) rfl
set_option maxRecDepth 100000 in
theorem m_1100 : (.code yX0_isDone cX0_isDone 1 (some .boolean) : Cond) ∈ jw := jin (jt_5 _ (List.mem_of_getElem? (i := 63) rfl)) rfl
set_option maxRecDepth 100000 in
theorem m_1101 : (.methodLink RX12 309 yX12_mayTake : Cond) ∈ jw := jin (jt_5 _ (List.mem_of_getElem? (i := 64) rfl)) rfl
set_option maxRecDepth 100000 in
theorem m_1102 : (.instanceMethod yX12_mayTake : Cond) ∈ jw := jin (jt_5 _ (List.mem_of_getElem? (i := 66) rfl)) rfl
set_option maxRecDepth 100000 in
theorem m_1103 : (.selects RX12 yX12_mayTake yX12_mayTake : Cond) ∈ jw := jin (jt_p _ (List.mem_of_getElem? (i := 45) rfl)) rfl
set_option maxRecDepth 100000 in
theorem m_1104 : (.code yX12_mayTake cX12_mayTake 4 (some .boolean) : Cond) ∈ jw := jin (jt_5 _ (List.mem_of_getElem? (i := 67) rfl)) rfl
set_option maxRecDepth 100000 in
theorem m_1105 : (.methodLink RX12 389 yX5_valueOn : Cond) ∈ jw := jin (jt_5 _ (List.mem_of_getElem? (i := 115) rfl)) rfl
set_option maxRecDepth 100000 in
theorem m_1106 : (.instanceMethod yX5_valueOn : Cond) ∈ jw := jin (jt_5 _ (List.mem_of_getElem? (i := 116) rfl)) rfl
set_option maxRecDepth 100000 in
theorem m_1107 : (.selects RX5 yX5_valueOn yX5_valueOn : Cond) ∈ jw := jin (jt_5 _ (List.mem_of_getElem? (i := 117) rfl)) rfl
set_option maxRecDepth 100000 in
theorem m_1108 : (.code yX5_valueOn cX5_valueOn 4 (some .int) : Cond) ∈ jw := jin (jt_5 _ (List.mem_of_getElem? (i := 118) rfl)) rfl
set_option maxRecDepth 100000 in
theorem m_1109 : (.methodLink RX12 392 yX12_lineAt : Cond) ∈ jw := jin (jt_5 _ (List.mem_of_getElem? (i := 123) rfl)) rfl
set_option maxRecDepth 100000 in
theorem m_1110 : (.instanceMethod yX12_lineAt : Cond) ∈ jw := jin (jt_5 _ (List.mem_of_getElem? (i := 125) rfl)) rfl
set_option maxRecDepth 100000 in
theorem m_1111 : (.selects RX12 yX12_lineAt yX12_lineAt : Cond) ∈ jw := jin (jt_p _ (List.mem_of_getElem? (i := 54) rfl)) rfl
set_option maxRecDepth 100000 in
theorem m_1112 : (.code yX12_lineAt cX12_lineAt 2 (some (.object "BookOfAll$Line")) : Cond) ∈ jw := jin (jt_5 _ (List.mem_of_getElem? (i := 126) rfl)) rfl
set_option maxRecDepth 100000 in
theorem m_1113 : (.methodLink RX12 405 yX12_hangs : Cond) ∈ jw := jin (jt_5 _ (List.mem_of_getElem? (i := 181) rfl)) rfl
set_option maxRecDepth 100000 in
theorem m_1114 : (.instanceMethod yX12_hangs : Cond) ∈ jw := jin (jt_5 _ (List.mem_of_getElem? (i := 183) rfl)) rfl
set_option maxRecDepth 100000 in
theorem m_1115 : (.selects RX12 yX12_hangs yX12_hangs : Cond) ∈ jw := jin (jt_p _ (List.mem_of_getElem? (i := 56) rfl)) rfl
set_option maxRecDepth 100000 in
theorem m_1116 : (.code yX12_hangs cX12_hangs 3 (some .boolean) : Cond) ∈ jw := jin (jt_5 _ (List.mem_of_getElem? (i := 184) rfl)) rfl
set_option maxRecDepth 100000 in
theorem m_1117 : (.methodLink RX12 408 yX5_addFact : Cond) ∈ jw := jin (jt_5 _ (List.mem_of_getElem? (i := 189) rfl)) rfl
set_option maxRecDepth 100000 in
theorem m_1118 : (.instanceMethod yX5_addFact : Cond) ∈ jw := jin (jt_5 _ (List.mem_of_getElem? (i := 190) rfl)) rfl
set_option maxRecDepth 100000 in
theorem m_1119 : (.selects RX5 yX5_addFact yX5_addFact : Cond) ∈ jw := jin (jt_5 _ (List.mem_of_getElem? (i := 191) rfl)) rfl
set_option maxRecDepth 100000 in
theorem m_1120 : (.code yX5_addFact cX5_addFact 5 (some .boolean) : Cond) ∈ jw := jin (jt_5 _ (List.mem_of_getElem? (i := 192) rfl)) rfl
set_option maxRecDepth 100000 in
theorem m_1121 : (.methodLink RX12 412 yX5_sourceOn : Cond) ∈ jw := jin (jt_5 _ (List.mem_of_getElem? (i := 197) rfl)) rfl
set_option maxRecDepth 100000 in
theorem m_1122 : (.instanceMethod yX5_sourceOn : Cond) ∈ jw := jin (jt_5 _ (List.mem_of_getElem? (i := 198) rfl)) rfl
set_option maxRecDepth 100000 in
theorem m_1123 : (.selects RX5 yX5_sourceOn yX5_sourceOn : Cond) ∈ jw := jin (jt_5 _ (List.mem_of_getElem? (i := 199) rfl)) rfl
set_option maxRecDepth 100000 in
theorem m_1124 : (.code yX5_sourceOn cX5_sourceOn 4 (some .int) : Cond) ∈ jw := jin (jt_5 _ (List.mem_of_getElem? (i := 200) rfl)) rfl
set_option maxRecDepth 100000 in
theorem m_1125 : (.methodLink RX12 419 yX5_keptOn : Cond) ∈ jw := jin (jt_5 _ (List.mem_of_getElem? (i := 209) rfl)) rfl
set_option maxRecDepth 100000 in
theorem m_1126 : (.instanceMethod yX5_keptOn : Cond) ∈ jw := jin (jt_5 _ (List.mem_of_getElem? (i := 210) rfl)) rfl
set_option maxRecDepth 100000 in
theorem m_1127 : (.selects RX5 yX5_keptOn yX5_keptOn : Cond) ∈ jw := jin (jt_5 _ (List.mem_of_getElem? (i := 211) rfl)) rfl
set_option maxRecDepth 100000 in
theorem m_1128 : (.code yX5_keptOn cX5_keptOn 6 (some .int) : Cond) ∈ jw := jin (jt_5 _ (List.mem_of_getElem? (i := 212) rfl)) rfl
set_option maxRecDepth 100000 in
theorem m_1129 : (.methodLink RX12 415 yX12_isStale : Cond) ∈ jw := jin (jt_5 _ (List.mem_of_getElem? (i := 205) rfl)) rfl
set_option maxRecDepth 100000 in
theorem m_1130 : (.instanceMethod yX12_isStale : Cond) ∈ jw := jin (jt_5 _ (List.mem_of_getElem? (i := 207) rfl)) rfl
set_option maxRecDepth 100000 in
theorem m_1131 : (.selects RX12 yX12_isStale yX12_isStale : Cond) ∈ jw := jin (jt_p _ (List.mem_of_getElem? (i := 57) rfl)) rfl
set_option maxRecDepth 100000 in
theorem m_1132 : (.code yX12_isStale cX12_isStale 4 (some .boolean) : Cond) ∈ jw := jin (jt_5 _ (List.mem_of_getElem? (i := 208) rfl)) rfl
set_option maxRecDepth 100000 in
theorem m_1133 : (.methodLink RX12 425 yX12_isSetLine : Cond) ∈ jw := jin (jt_5 _ (List.mem_of_getElem? (i := 221) rfl)) rfl
set_option maxRecDepth 100000 in
theorem m_1134 : (.instanceMethod yX12_isSetLine : Cond) ∈ jw := jin (jt_5 _ (List.mem_of_getElem? (i := 223) rfl)) rfl
set_option maxRecDepth 100000 in
theorem m_1135 : (.selects RX12 yX12_isSetLine yX12_isSetLine : Cond) ∈ jw := jin (jt_p _ (List.mem_of_getElem? (i := 58) rfl)) rfl
set_option maxRecDepth 100000 in
theorem m_1136 : (.code yX12_isSetLine cX12_isSetLine 3 (some .boolean) : Cond) ∈ jw := jin (jt_5 _ (List.mem_of_getElem? (i := 224) rfl)) rfl
set_option maxRecDepth 100000 in
theorem m_1137 : (.methodLink RX12 429 yX5_addErratum : Cond) ∈ jw := jin (jt_5 _ (List.mem_of_getElem? (i := 229) rfl)) rfl
set_option maxRecDepth 100000 in
theorem m_1138 : (.instanceMethod yX5_addErratum : Cond) ∈ jw := jin (jt_5 _ (List.mem_of_getElem? (i := 230) rfl)) rfl
set_option maxRecDepth 100000 in
theorem m_1139 : (.selects RX5 yX5_addErratum yX5_addErratum : Cond) ∈ jw := jin (jt_5 _ (List.mem_of_getElem? (i := 231) rfl)) rfl
set_option maxRecDepth 100000 in
theorem m_1140 : (.code yX5_addErratum cX5_addErratum 6 (some .int) : Cond) ∈ jw := jin (jt_5 _ (List.mem_of_getElem? (i := 232) rfl)) rfl
set_option maxRecDepth 100000 in
theorem m_1141 : (.methodLink RX12 433 yX5_missedBy : Cond) ∈ jw := jin (jt_5 _ (List.mem_of_getElem? (i := 237) rfl)) rfl
set_option maxRecDepth 100000 in
theorem m_1142 : (.instanceMethod yX5_missedBy : Cond) ∈ jw := jin (jt_5 _ (List.mem_of_getElem? (i := 238) rfl)) rfl
set_option maxRecDepth 100000 in
theorem m_1143 : (.selects RX5 yX5_missedBy yX5_missedBy : Cond) ∈ jw := jin (jt_5 _ (List.mem_of_getElem? (i := 239) rfl)) rfl
set_option maxRecDepth 100000 in
theorem m_1144 : (.code yX5_missedBy cX5_missedBy 2 (some .int) : Cond) ∈ jw := jin (jt_6 _ (List.mem_of_getElem? (i := 0) rfl)) rfl
set_option maxRecDepth 100000 in
theorem m_1145 : (.methodLink RX12 439 yX12_pageOf : Cond) ∈ jw := jin (jt_6 _ (List.mem_of_getElem? (i := 5) rfl)) rfl
set_option maxRecDepth 100000 in
theorem m_1146 : (.instanceMethod yX12_pageOf : Cond) ∈ jw := jin (jt_6 _ (List.mem_of_getElem? (i := 7) rfl)) rfl
set_option maxRecDepth 100000 in
theorem m_1147 : (.selects RX12 yX12_pageOf yX12_pageOf : Cond) ∈ jw := jin (jt_p _ (List.mem_of_getElem? (i := 59) rfl)) rfl
set_option maxRecDepth 100000 in
theorem m_1148 : (.code yX12_pageOf cX12_pageOf 2 (some .int) : Cond) ∈ jw := jin (jt_6 _ (List.mem_of_getElem? (i := 8) rfl)) rfl
set_option maxRecDepth 100000 in
theorem m_1149 : (.methodLink RX12 452 yX12_inRow : Cond) ∈ jw := jin (jt_6 _ (List.mem_of_getElem? (i := 17) rfl)) rfl
set_option maxRecDepth 100000 in
theorem m_1150 : (.instanceMethod yX12_inRow : Cond) ∈ jw := jin (jt_6 _ (List.mem_of_getElem? (i := 19) rfl)) rfl
set_option maxRecDepth 100000 in
theorem m_1151 : (.selects RX12 yX12_inRow yX12_inRow : Cond) ∈ jw := jin (jt_p _ (List.mem_of_getElem? (i := 61) rfl)) rfl
set_option maxRecDepth 100000 in
theorem m_1152 : (.code yX12_inRow cX12_inRow 2 (some (.object "BookOfAll$Entry")) : Cond) ∈ jw := jin (jt_6 _ (List.mem_of_getElem? (i := 20) rfl)) rfl
set_option maxRecDepth 100000 in
theorem m_1153 : (.methodLink RX12 478 yX11_addLaid : Cond) ∈ jw := jin (jt_6 _ (List.mem_of_getElem? (i := 34) rfl)) rfl
set_option maxRecDepth 100000 in
theorem m_1154 : (.instanceMethod yX11_addLaid : Cond) ∈ jw := jin (jt_6 _ (List.mem_of_getElem? (i := 35) rfl)) rfl
set_option maxRecDepth 100000 in
theorem m_1155 : (.selects RX11 yX11_addLaid yX11_addLaid : Cond) ∈ jw := jin (jt_6 _ (List.mem_of_getElem? (i := 36) rfl)) rfl
set_option maxRecDepth 100000 in
theorem m_1156 : (.initialized RX11 : Cond) ∈ jw := jin (jt_1 _ (List.mem_of_getElem? (i := 5) rfl)) rfl
set_option maxRecDepth 100000 in
theorem m_1157 : (.code yX11_addLaid cX11_addLaid 2 none : Cond) ∈ jw := jin (jt_6 _ (List.mem_of_getElem? (i := 37) rfl)) rfl
set_option maxRecDepth 100000 in
theorem m_1158 : (.methodLink RX12 481 yX12_isAway : Cond) ∈ jw := jin (jt_6 _ (List.mem_of_getElem? (i := 50) rfl)) rfl
set_option maxRecDepth 100000 in
theorem m_1159 : (.instanceMethod yX12_isAway : Cond) ∈ jw := jin (jt_6 _ (List.mem_of_getElem? (i := 52) rfl)) rfl
set_option maxRecDepth 100000 in
theorem m_1160 : (.selects RX12 yX12_isAway yX12_isAway : Cond) ∈ jw := jin (jt_p _ (List.mem_of_getElem? (i := 66) rfl)) rfl
set_option maxRecDepth 100000 in
theorem m_1161 : (.code yX12_isAway cX12_isAway 2 (some .boolean) : Cond) ∈ jw := jin (jt_6 _ (List.mem_of_getElem? (i := 53) rfl)) rfl
set_option maxRecDepth 100000 in
theorem m_1162 : (.methodLink RX12 484 yX12_endOf : Cond) ∈ jw := jin (jt_6 _ (List.mem_of_getElem? (i := 54) rfl)) rfl
set_option maxRecDepth 100000 in
theorem m_1163 : (.instanceMethod yX12_endOf : Cond) ∈ jw := jin (jt_6 _ (List.mem_of_getElem? (i := 56) rfl)) rfl
set_option maxRecDepth 100000 in
theorem m_1164 : (.selects RX12 yX12_endOf yX12_endOf : Cond) ∈ jw := jin (jt_p _ (List.mem_of_getElem? (i := 67) rfl)) rfl
set_option maxRecDepth 100000 in
theorem m_1165 : (.code yX12_endOf cX12_endOf 4 (some (.object "BookOfAll$Entry")) : Cond) ∈ jw := jin (jt_6 _ (List.mem_of_getElem? (i := 57) rfl)) rfl
set_option maxRecDepth 100000 in
theorem m_1166 : (.methodLink RX12 488 yX12_isBrokenOnTheWay : Cond) ∈ jw := jin (jt_6 _ (List.mem_of_getElem? (i := 58) rfl)) rfl
set_option maxRecDepth 100000 in
theorem m_1167 : (.instanceMethod yX12_isBrokenOnTheWay : Cond) ∈ jw := jin (jt_6 _ (List.mem_of_getElem? (i := 60) rfl)) rfl
set_option maxRecDepth 100000 in
theorem m_1168 : (.selects RX12 yX12_isBrokenOnTheWay yX12_isBrokenOnTheWay : Cond) ∈ jw := jin (jt_p _ (List.mem_of_getElem? (i := 68) rfl)) rfl
set_option maxRecDepth 100000 in
theorem m_1169 : (.code yX12_isBrokenOnTheWay cX12_isBrokenOnTheWay 4 (some .boolean) : Cond) ∈ jw := jin (jt_6 _ (List.mem_of_getElem? (i := 61) rfl)) rfl
set_option maxRecDepth 100000 in
theorem m_1170 : (.methodLink RX12 491 yX12_isSubscriber : Cond) ∈ jw := jin (jt_6 _ (List.mem_of_getElem? (i := 74) rfl)) rfl
set_option maxRecDepth 100000 in
theorem m_1171 : (.instanceMethod yX12_isSubscriber : Cond) ∈ jw := jin (jt_6 _ (List.mem_of_getElem? (i := 76) rfl)) rfl
set_option maxRecDepth 100000 in
theorem m_1172 : (.selects RX12 yX12_isSubscriber yX12_isSubscriber : Cond) ∈ jw := jin (jt_p _ (List.mem_of_getElem? (i := 69) rfl)) rfl
set_option maxRecDepth 100000 in
theorem m_1173 : (.code yX12_isSubscriber cX12_isSubscriber 2 (some .boolean) : Cond) ∈ jw := jin (jt_6 _ (List.mem_of_getElem? (i := 77) rfl)) rfl
set_option maxRecDepth 100000 in
theorem m_1174 : (.methodLink RX12 494 yX12_setVolumeAt : Cond) ∈ jw := jin (jt_6 _ (List.mem_of_getElem? (i := 82) rfl)) rfl
set_option maxRecDepth 100000 in
theorem m_1175 : (.instanceMethod yX12_setVolumeAt : Cond) ∈ jw := jin (jt_6 _ (List.mem_of_getElem? (i := 84) rfl)) rfl
set_option maxRecDepth 100000 in
theorem m_1176 : (.selects RX12 yX12_setVolumeAt yX12_setVolumeAt : Cond) ∈ jw := jin (jt_p _ (List.mem_of_getElem? (i := 70) rfl)) rfl
set_option maxRecDepth 100000 in
theorem m_1177 : (.code yX12_setVolumeAt cX12_setVolumeAt 3 (some (.object "BookOfAll$Volume")) : Cond) ∈ jw := jin (jt_6 _ (List.mem_of_getElem? (i := 85) rfl)) rfl
set_option maxRecDepth 100000 in
theorem m_1178 : (.methodLink RX12 497 yX8_forgetNames : Cond) ∈ jw := jin (jt_6 _ (List.mem_of_getElem? (i := 86) rfl)) rfl
set_option maxRecDepth 100000 in
theorem m_1179 : (.instanceMethod yX8_forgetNames : Cond) ∈ jw := jin (jt_6 _ (List.mem_of_getElem? (i := 87) rfl)) rfl
set_option maxRecDepth 100000 in
theorem m_1180 : (.selects RX8 yX8_forgetNames yX8_forgetNames : Cond) ∈ jw := jin (jt_6 _ (List.mem_of_getElem? (i := 88) rfl)) rfl
set_option maxRecDepth 100000 in
theorem m_1181 : (.code yX8_forgetNames cX8_forgetNames 1 none : Cond) ∈ jw := jin (jt_6 _ (List.mem_of_getElem? (i := 89) rfl)) rfl
set_option maxRecDepth 100000 in
theorem m_1182 : (.methodLink RX12 379 Lib.Math.max.name : Cond) ∈ jw := jin (jt_5 _ (List.mem_of_getElem? (i := 172) rfl)) rfl
set_option maxRecDepth 100000 in
theorem m_1183 : (.methodLink RX12 521 yX12_lengthWithin : Cond) ∈ jw := jin (jt_6 _ (List.mem_of_getElem? (i := 107) rfl)) rfl
set_option maxRecDepth 100000 in
theorem m_1184 : (.instanceMethod yX12_lengthWithin : Cond) ∈ jw := jin (jt_6 _ (List.mem_of_getElem? (i := 109) rfl)) rfl
set_option maxRecDepth 100000 in
theorem m_1185 : (.selects RX12 yX12_lengthWithin yX12_lengthWithin : Cond) ∈ jw := jin (jt_p _ (List.mem_of_getElem? (i := 73) rfl)) rfl
set_option maxRecDepth 100000 in
theorem m_1186 : (.code yX12_lengthWithin cX12_lengthWithin 2 (some .int) : Cond) ∈ jw := jin (jt_6 _ (List.mem_of_getElem? (i := 110) rfl)) rfl
set_option maxRecDepth 100000 in
theorem m_1187 : (.methodLink RX12 524 yX3_add : Cond) ∈ jw := jin (jt_6 _ (List.mem_of_getElem? (i := 111) rfl)) rfl
set_option maxRecDepth 100000 in
theorem m_1188 : (.instanceMethod yX3_add : Cond) ∈ jw := jin (jt_6 _ (List.mem_of_getElem? (i := 112) rfl)) rfl
set_option maxRecDepth 100000 in
theorem m_1189 : (.selects RX3 yX3_add yX3_add : Cond) ∈ jw := jin (jt_6 _ (List.mem_of_getElem? (i := 113) rfl)) rfl
set_option maxRecDepth 100000 in
theorem m_1190 : (.code yX3_add cX3_add 5 none : Cond) ∈ jw := jin (jt_6 _ (List.mem_of_getElem? (i := 114) rfl)) rfl
set_option maxRecDepth 100000 in
theorem m_1191 : (.methodLink RX12 475 yX12_takenLines : Cond) ∈ jw := jin (jt_6 _ (List.mem_of_getElem? (i := 38) rfl)) rfl
set_option maxRecDepth 100000 in
theorem m_1192 : (.instanceMethod yX12_takenLines : Cond) ∈ jw := jin (jt_6 _ (List.mem_of_getElem? (i := 40) rfl)) rfl
set_option maxRecDepth 100000 in
theorem m_1193 : (.selects RX12 yX12_takenLines yX12_takenLines : Cond) ∈ jw := jin (jt_p _ (List.mem_of_getElem? (i := 65) rfl)) rfl
set_option maxRecDepth 100000 in
theorem m_1194 : (.code yX12_takenLines cX12_takenLines 2 (some .int) : Cond) ∈ jw := jin (jt_6 _ (List.mem_of_getElem? (i := 41) rfl)) rfl
set_option maxRecDepth 100000 in
theorem m_1195 : (.methodLink RX12 509 yX3_begin : Cond) ∈ jw := jin (jt_6 _ (List.mem_of_getElem? (i := 99) rfl)) rfl
set_option maxRecDepth 100000 in
theorem m_1196 : (.instanceMethod yX3_begin : Cond) ∈ jw := jin (jt_6 _ (List.mem_of_getElem? (i := 100) rfl)) rfl
set_option maxRecDepth 100000 in
theorem m_1197 : (.selects RX3 yX3_begin yX3_begin : Cond) ∈ jw := jin (jt_6 _ (List.mem_of_getElem? (i := 101) rfl)) rfl
set_option maxRecDepth 100000 in
theorem m_1198 : (.code yX3_begin cX3_begin 1 none : Cond) ∈ jw := jin (jt_6 _ (List.mem_of_getElem? (i := 102) rfl)) rfl
set_option maxRecDepth 100000 in
theorem m_1199 : (.methodLink RX12 515 yX3_fitTo : Cond) ∈ jw := jin (jt_6 _ (List.mem_of_getElem? (i := 117) rfl)) rfl
set_option maxRecDepth 100000 in
theorem m_1200 : (.instanceMethod yX3_fitTo : Cond) ∈ jw := jin (jt_6 _ (List.mem_of_getElem? (i := 118) rfl)) rfl
set_option maxRecDepth 100000 in
theorem m_1201 : (.selects RX3 yX3_fitTo yX3_fitTo : Cond) ∈ jw := jin (jt_6 _ (List.mem_of_getElem? (i := 119) rfl)) rfl
set_option maxRecDepth 100000 in
theorem m_1202 : (.code yX3_fitTo cX3_fitTo 9 (some .boolean) : Cond) ∈ jw := jin (jt_6 _ (List.mem_of_getElem? (i := 120) rfl)) rfl
set_option maxRecDepth 100000 in
theorem m_1203 : (.methodLink RX12 512 yX12_addToFitting : Cond) ∈ jw := jin (jt_6 _ (List.mem_of_getElem? (i := 103) rfl)) rfl
set_option maxRecDepth 100000 in
theorem m_1204 : (.instanceMethod yX12_addToFitting : Cond) ∈ jw := jin (jt_6 _ (List.mem_of_getElem? (i := 105) rfl)) rfl
set_option maxRecDepth 100000 in
theorem m_1205 : (.selects RX12 yX12_addToFitting yX12_addToFitting : Cond) ∈ jw := jin (jt_p _ (List.mem_of_getElem? (i := 72) rfl)) rfl
set_option maxRecDepth 100000 in
theorem m_1206 : (.code yX12_addToFitting cX12_addToFitting 4 none : Cond) ∈ jw := jin (jt_6 _ (List.mem_of_getElem? (i := 106) rfl)) rfl
set_option maxRecDepth 100000 in
theorem m_1207 : (.methodLink RX12 500 yX12_fit : Cond) ∈ jw := jin (jt_6 _ (List.mem_of_getElem? (i := 95) rfl)) rfl
set_option maxRecDepth 100000 in
theorem m_1208 : (.instanceMethod yX12_fit : Cond) ∈ jw := jin (jt_6 _ (List.mem_of_getElem? (i := 97) rfl)) rfl
set_option maxRecDepth 100000 in
theorem m_1209 : (.selects RX12 yX12_fit yX12_fit : Cond) ∈ jw := jin (jt_p _ (List.mem_of_getElem? (i := 71) rfl)) rfl
set_option maxRecDepth 100000 in
theorem m_1210 : (.code yX12_fit cX12_fit 5 (some .boolean) : Cond) ∈ jw := jin (jt_6 _ (List.mem_of_getElem? (i := 98) rfl)) rfl
set_option maxRecDepth 100000 in
theorem m_1211 : (.methodLink RX12 503 yX3_differences : Cond) ∈ jw := jin (jt_6 _ (List.mem_of_getElem? (i := 132) rfl)) rfl
set_option maxRecDepth 100000 in
theorem m_1212 : (.instanceMethod yX3_differences : Cond) ∈ jw := jin (jt_6 _ (List.mem_of_getElem? (i := 133) rfl)) rfl
set_option maxRecDepth 100000 in
theorem m_1213 : (.selects RX3 yX3_differences yX3_differences : Cond) ∈ jw := jin (jt_6 _ (List.mem_of_getElem? (i := 134) rfl)) rfl
set_option maxRecDepth 100000 in
theorem m_1214 : (.code yX3_differences cX3_differences 3 (some .int) : Cond) ∈ jw := jin (jt_6 _ (List.mem_of_getElem? (i := 135) rfl)) rfl
set_option maxRecDepth 100000 in
theorem m_1215 : (.methodLink RX12 506 yX3_fittedOf : Cond) ∈ jw := jin (jt_6 _ (List.mem_of_getElem? (i := 140) rfl)) rfl
set_option maxRecDepth 100000 in
theorem m_1216 : (.instanceMethod yX3_fittedOf : Cond) ∈ jw := jin (jt_6 _ (List.mem_of_getElem? (i := 141) rfl)) rfl
set_option maxRecDepth 100000 in
theorem m_1217 : (.selects RX3 yX3_fittedOf yX3_fittedOf : Cond) ∈ jw := jin (jt_6 _ (List.mem_of_getElem? (i := 142) rfl)) rfl
set_option maxRecDepth 100000 in
theorem m_1218 : (.code yX3_fittedOf cX3_fittedOf 3 (some .int) : Cond) ∈ jw := jin (jt_6 _ (List.mem_of_getElem? (i := 143) rfl)) rfl
set_option maxRecDepth 100000 in
theorem m_1219 : (.methodLink RX12 545 yJ6_bitCount_0f7a4 : Cond) ∈ jw := jin (jt_6 _ (List.mem_of_getElem? (i := 153) rfl)) rfl
set_option maxRecDepth 100000 in
theorem m_1220 : (.constant RX12 544 1073741824 : Cond) ∈ jw := jin (jt_6 _ (List.mem_of_getElem? (i := 152) rfl)) rfl
set_option maxRecDepth 100000 in
theorem m_1221 : (.methodLink RX12 549 yX1_begin : Cond) ∈ jw := jin (jt_6 _ (List.mem_of_getElem? (i := 163) rfl)) rfl
set_option maxRecDepth 100000 in
theorem m_1222 : (.instanceMethod yX1_begin : Cond) ∈ jw := jin (jt_6 _ (List.mem_of_getElem? (i := 164) rfl)) rfl
set_option maxRecDepth 100000 in
theorem m_1223 : (.selects RX1 yX1_begin yX1_begin : Cond) ∈ jw := jin (jt_6 _ (List.mem_of_getElem? (i := 165) rfl)) rfl
set_option maxRecDepth 100000 in
theorem m_1224 : (.code yX1_begin cX1_begin 1 none : Cond) ∈ jw := jin (jt_6 _ (List.mem_of_getElem? (i := 166) rfl)) rfl
set_option maxRecDepth 100000 in
theorem m_1225 : (.methodLink RX12 550 yX1_addHand : Cond) ∈ jw := jin (jt_6 _ (List.mem_of_getElem? (i := 167) rfl)) rfl
set_option maxRecDepth 100000 in
theorem m_1226 : (.instanceMethod yX1_addHand : Cond) ∈ jw := jin (jt_6 _ (List.mem_of_getElem? (i := 168) rfl)) rfl
set_option maxRecDepth 100000 in
theorem m_1227 : (.selects RX1 yX1_addHand yX1_addHand : Cond) ∈ jw := jin (jt_6 _ (List.mem_of_getElem? (i := 169) rfl)) rfl
set_option maxRecDepth 100000 in
theorem m_1228 : (.code yX1_addHand cX1_addHand 3 none : Cond) ∈ jw := jin (jt_6 _ (List.mem_of_getElem? (i := 170) rfl)) rfl
set_option maxRecDepth 100000 in
theorem m_1229 : (.methodLink RX12 553 yX1_addArticle : Cond) ∈ jw := jin (jt_6 _ (List.mem_of_getElem? (i := 175) rfl)) rfl
set_option maxRecDepth 100000 in
theorem m_1230 : (.instanceMethod yX1_addArticle : Cond) ∈ jw := jin (jt_6 _ (List.mem_of_getElem? (i := 176) rfl)) rfl
set_option maxRecDepth 100000 in
theorem m_1231 : (.selects RX1 yX1_addArticle yX1_addArticle : Cond) ∈ jw := jin (jt_6 _ (List.mem_of_getElem? (i := 177) rfl)) rfl
set_option maxRecDepth 100000 in
theorem m_1232 : (.code yX1_addArticle cX1_addArticle 3 none : Cond) ∈ jw := jin (jt_6 _ (List.mem_of_getElem? (i := 178) rfl)) rfl
set_option maxRecDepth 100000 in
theorem m_1233 : (.methodLink RX12 557 yX1_handNumber : Cond) ∈ jw := jin (jt_6 _ (List.mem_of_getElem? (i := 179) rfl)) rfl
set_option maxRecDepth 100000 in
theorem m_1234 : (.methodLink RX12 560 yX1_allow : Cond) ∈ jw := jin (jt_6 _ (List.mem_of_getElem? (i := 183) rfl)) rfl
set_option maxRecDepth 100000 in
theorem m_1235 : (.instanceMethod yX1_allow : Cond) ∈ jw := jin (jt_6 _ (List.mem_of_getElem? (i := 184) rfl)) rfl
set_option maxRecDepth 100000 in
theorem m_1236 : (.selects RX1 yX1_allow yX1_allow : Cond) ∈ jw := jin (jt_6 _ (List.mem_of_getElem? (i := 185) rfl)) rfl
set_option maxRecDepth 100000 in
theorem m_1237 : (.code yX1_allow cX1_allow 2 none : Cond) ∈ jw := jin (jt_6 _ (List.mem_of_getElem? (i := 186) rfl)) rfl
set_option maxRecDepth 100000 in
theorem m_1238 : (.methodLink RX12 528 yX12_canGive : Cond) ∈ jw := jin (jt_6 _ (List.mem_of_getElem? (i := 148) rfl)) rfl
set_option maxRecDepth 100000 in
theorem m_1239 : (.instanceMethod yX12_canGive : Cond) ∈ jw := jin (jt_6 _ (List.mem_of_getElem? (i := 150) rfl)) rfl
set_option maxRecDepth 100000 in
theorem m_1240 : (.selects RX12 yX12_canGive yX12_canGive : Cond) ∈ jw := jin (jt_p _ (List.mem_of_getElem? (i := 76) rfl)) rfl
set_option maxRecDepth 100000 in
theorem m_1241 : (.code yX12_canGive cX12_canGive 6 (some .boolean) : Cond) ∈ jw := jin (jt_6 _ (List.mem_of_getElem? (i := 151) rfl)) rfl
set_option maxRecDepth 100000 in
theorem m_1242 : (.methodLink RX12 532 yX12_addHands : Cond) ∈ jw := jin (jt_6 _ (List.mem_of_getElem? (i := 159) rfl)) rfl
set_option maxRecDepth 100000 in
theorem m_1243 : (.instanceMethod yX12_addHands : Cond) ∈ jw := jin (jt_6 _ (List.mem_of_getElem? (i := 161) rfl)) rfl
set_option maxRecDepth 100000 in
theorem m_1244 : (.selects RX12 yX12_addHands yX12_addHands : Cond) ∈ jw := jin (jt_p _ (List.mem_of_getElem? (i := 77) rfl)) rfl
set_option maxRecDepth 100000 in
theorem m_1245 : (.code yX12_addHands cX12_addHands 5 (some .boolean) : Cond) ∈ jw := jin (jt_6 _ (List.mem_of_getElem? (i := 162) rfl)) rfl
set_option maxRecDepth 100000 in
theorem m_1246 : (.methodLink RX12 535 yX12_addArticles : Cond) ∈ jw := jin (jt_6 _ (List.mem_of_getElem? (i := 171) rfl)) rfl
set_option maxRecDepth 100000 in
theorem m_1247 : (.instanceMethod yX12_addArticles : Cond) ∈ jw := jin (jt_6 _ (List.mem_of_getElem? (i := 173) rfl)) rfl
set_option maxRecDepth 100000 in
theorem m_1248 : (.selects RX12 yX12_addArticles yX12_addArticles : Cond) ∈ jw := jin (jt_p _ (List.mem_of_getElem? (i := 78) rfl)) rfl
set_option maxRecDepth 100000 in
theorem m_1249 : (.code yX12_addArticles cX12_addArticles 5 (some .boolean) : Cond) ∈ jw := jin (jt_6 _ (List.mem_of_getElem? (i := 174) rfl)) rfl
set_option maxRecDepth 100000 in
theorem m_1250 : (.methodLink RX12 538 yX1_choose : Cond) ∈ jw := jin (jt_6 _ (List.mem_of_getElem? (i := 187) rfl)) rfl
set_option maxRecDepth 100000 in
theorem m_1251 : (.instanceMethod yX1_choose : Cond) ∈ jw := jin (jt_6 _ (List.mem_of_getElem? (i := 188) rfl)) rfl
set_option maxRecDepth 100000 in
theorem m_1252 : (.selects RX1 yX1_choose yX1_choose : Cond) ∈ jw := jin (jt_6 _ (List.mem_of_getElem? (i := 189) rfl)) rfl
set_option maxRecDepth 100000 in
theorem m_1253 : (.code yX1_choose cX1_choose 5 (some .int) : Cond) ∈ jw := jin (jt_6 _ (List.mem_of_getElem? (i := 190) rfl)) rfl
set_option maxRecDepth 100000 in
theorem m_1254 : (.methodLink RX12 541 yX1_handOf : Cond) ∈ jw := jin (jt_6 _ (List.mem_of_getElem? (i := 218) rfl)) rfl
set_option maxRecDepth 100000 in
theorem m_1255 : (.instanceMethod yX1_handOf : Cond) ∈ jw := jin (jt_6 _ (List.mem_of_getElem? (i := 219) rfl)) rfl
set_option maxRecDepth 100000 in
theorem m_1256 : (.selects RX1 yX1_handOf yX1_handOf : Cond) ∈ jw := jin (jt_6 _ (List.mem_of_getElem? (i := 220) rfl)) rfl
set_option maxRecDepth 100000 in
theorem m_1257 : (.code yX1_handOf cX1_handOf 3 (some .int) : Cond) ∈ jw := jin (jt_6 _ (List.mem_of_getElem? (i := 221) rfl)) rfl
set_option maxRecDepth 100000 in
theorem m_1258 : (.methodLink RX12 566 yX11_laidAt : Cond) ∈ jw := jin (jt_6 _ (List.mem_of_getElem? (i := 227) rfl)) rfl
set_option maxRecDepth 100000 in
theorem m_1259 : (.instanceMethod yX11_laidAt : Cond) ∈ jw := jin (jt_6 _ (List.mem_of_getElem? (i := 228) rfl)) rfl
set_option maxRecDepth 100000 in
theorem m_1260 : (.selects RX11 yX11_laidAt yX11_laidAt : Cond) ∈ jw := jin (jt_6 _ (List.mem_of_getElem? (i := 229) rfl)) rfl
set_option maxRecDepth 100000 in
theorem m_1261 : (.code yX11_laidAt cX11_laidAt 2 (some .int) : Cond) ∈ jw := jin (jt_6 _ (List.mem_of_getElem? (i := 230) rfl)) rfl
set_option maxRecDepth 100000 in
theorem m_1262 : (.methodLink RX12 572 yX10_add : Cond) ∈ jw := jin (jt_6 _ (List.mem_of_getElem? (i := 235) rfl)) rfl
set_option maxRecDepth 100000 in
theorem m_1263 : (.instanceMethod yX10_add : Cond) ∈ jw := jin (jt_6 _ (List.mem_of_getElem? (i := 236) rfl)) rfl
set_option maxRecDepth 100000 in
theorem m_1264 : (.selects RX10 yX10_add yX10_add : Cond) ∈ jw := jin (jt_6 _ (List.mem_of_getElem? (i := 237) rfl)) rfl
set_option maxRecDepth 100000 in
theorem m_1265 : (.code yX10_add cX10_add 2 (some .int) : Cond) ∈ jw := jin (jt_6 _ (List.mem_of_getElem? (i := 238) rfl)) rfl
set_option maxRecDepth 100000 in
theorem m_1266 : (.methodLink RX12 575 yX10_begin : Cond) ∈ jw := jin (jt_7 _ (List.mem_of_getElem? (i := 7) rfl)) rfl
set_option maxRecDepth 100000 in
theorem m_1267 : (.instanceMethod yX10_begin : Cond) ∈ jw := jin (jt_7 _ (List.mem_of_getElem? (i := 8) rfl)) rfl
set_option maxRecDepth 100000 in
theorem m_1268 : (.selects RX10 yX10_begin yX10_begin : Cond) ∈ jw := jin (jt_7 _ (List.mem_of_getElem? (i := 9) rfl)) rfl
set_option maxRecDepth 100000 in
theorem m_1269 : (.code yX10_begin cX10_begin 2 none : Cond) ∈ jw := jin (jt_7 _ (List.mem_of_getElem? (i := 10) rfl)) rfl
set_option maxRecDepth 100000 in
theorem m_1270 : (.methodLink RX12 583 yX10_shared : Cond) ∈ jw := jin (jt_7 _ (List.mem_of_getElem? (i := 24) rfl)) rfl
set_option maxRecDepth 100000 in
theorem m_1271 : (.instanceMethod yX10_shared : Cond) ∈ jw := jin (jt_7 _ (List.mem_of_getElem? (i := 25) rfl)) rfl
set_option maxRecDepth 100000 in
theorem m_1272 : (.selects RX10 yX10_shared yX10_shared : Cond) ∈ jw := jin (jt_7 _ (List.mem_of_getElem? (i := 26) rfl)) rfl
set_option maxRecDepth 100000 in
theorem m_1273 : (.code yX10_shared cX10_shared 1 (some .int) : Cond) ∈ jw := jin (jt_7 _ (List.mem_of_getElem? (i := 27) rfl)) rfl
set_option maxRecDepth 100000 in
theorem m_1274 : (.methodLink RX12 580 yX10_changes : Cond) ∈ jw := jin (jt_7 _ (List.mem_of_getElem? (i := 16) rfl)) rfl
set_option maxRecDepth 100000 in
theorem m_1275 : (.methodLink RX12 576 yX10_meet : Cond) ∈ jw := jin (jt_7 _ (List.mem_of_getElem? (i := 11) rfl)) rfl
set_option maxRecDepth 100000 in
theorem m_1276 : (.instanceMethod yX10_meet : Cond) ∈ jw := jin (jt_7 _ (List.mem_of_getElem? (i := 12) rfl)) rfl
set_option maxRecDepth 100000 in
theorem m_1277 : (.selects RX10 yX10_meet yX10_meet : Cond) ∈ jw := jin (jt_7 _ (List.mem_of_getElem? (i := 13) rfl)) rfl
set_option maxRecDepth 100000 in
theorem m_1278 : (.code yX10_meet cX10_meet 7 none : Cond) ∈ jw := jin (jt_7 _ (List.mem_of_getElem? (i := 14) rfl)) rfl
set_option maxRecDepth 100000 in
theorem m_1279 : (.methodLink RX12 586 yX12_ofArticle : Cond) ∈ jw := jin (jt_7 _ (List.mem_of_getElem? (i := 33) rfl)) rfl
set_option maxRecDepth 100000 in
theorem m_1280 : (.instanceMethod yX12_ofArticle : Cond) ∈ jw := jin (jt_7 _ (List.mem_of_getElem? (i := 35) rfl)) rfl
set_option maxRecDepth 100000 in
theorem m_1281 : (.selects RX12 yX12_ofArticle yX12_ofArticle : Cond) ∈ jw := jin (jt_p _ (List.mem_of_getElem? (i := 84) rfl)) rfl
set_option maxRecDepth 100000 in
theorem m_1282 : (.code yX12_ofArticle cX12_ofArticle 3 (some .int) : Cond) ∈ jw := jin (jt_7 _ (List.mem_of_getElem? (i := 36) rfl)) rfl
set_option maxRecDepth 100000 in
theorem m_1283 : (.methodLink RX12 599 yX12_countOfHand : Cond) ∈ jw := jin (jt_7 _ (List.mem_of_getElem? (i := 45) rfl)) rfl
set_option maxRecDepth 100000 in
theorem m_1284 : (.instanceMethod yX12_countOfHand : Cond) ∈ jw := jin (jt_7 _ (List.mem_of_getElem? (i := 47) rfl)) rfl
set_option maxRecDepth 100000 in
theorem m_1285 : (.selects RX12 yX12_countOfHand yX12_countOfHand : Cond) ∈ jw := jin (jt_p _ (List.mem_of_getElem? (i := 86) rfl)) rfl
set_option maxRecDepth 100000 in
theorem m_1286 : (.code yX12_countOfHand cX12_countOfHand 5 (some .int) : Cond) ∈ jw := jin (jt_7 _ (List.mem_of_getElem? (i := 48) rfl)) rfl
set_option maxRecDepth 100000 in
theorem m_1287 : (.methodLink RX12 596 yX12_payOfAll : Cond) ∈ jw := jin (jt_7 _ (List.mem_of_getElem? (i := 41) rfl)) rfl
set_option maxRecDepth 100000 in
theorem m_1288 : (.instanceMethod yX12_payOfAll : Cond) ∈ jw := jin (jt_7 _ (List.mem_of_getElem? (i := 43) rfl)) rfl
set_option maxRecDepth 100000 in
theorem m_1289 : (.selects RX12 yX12_payOfAll yX12_payOfAll : Cond) ∈ jw := jin (jt_p _ (List.mem_of_getElem? (i := 85) rfl)) rfl
set_option maxRecDepth 100000 in
theorem m_1290 : (.code yX12_payOfAll cX12_payOfAll 4 (some .int) : Cond) ∈ jw := jin (jt_7 _ (List.mem_of_getElem? (i := 44) rfl)) rfl
set_option maxRecDepth 100000 in
theorem m_1291 : (.methodLink RJ7 304 Lib.Math.min.name : Cond) ∈ jw := jin (jt_3 _ (List.mem_of_getElem? (i := 195) rfl)) rfl
set_option maxRecDepth 100000 in
theorem m_1292 : (.methodLink RJ7 150 arraycopyName : Cond) ∈ jw := jin (jt_3 _ (List.mem_of_getElem? (i := 196) rfl)) rfl
set_option maxRecDepth 100000 in
theorem m_1293 : (.methodLink RJ7 316 ⟨"[I", "clone", "()Ljava/lang/Object;"⟩ : Cond) ∈ jw := jin (jt_3 _ (List.mem_of_getElem? (i := 188) rfl)) rfl
set_option maxRecDepth 100000 in
theorem m_1294 : (.sameMethod "[I" "java/lang/Object" "clone" "()Ljava/lang/Object;" : Cond) ∈ jw := jin (jt_3 _ (List.mem_of_getElem? (i := 189) rfl)) rfl
set_option maxRecDepth 100000 in
theorem m_1295 : (.native ⟨"java/lang/Object", "clone", "()Ljava/lang/Object;"⟩ : Cond) ∈ jw := jin (jt_3 _ (List.mem_of_getElem? (i := 190) rfl)) rfl
set_option maxRecDepth 100000 in
theorem m_1296 : (.instanceMethod ⟨"java/lang/Object", "clone", "()Ljava/lang/Object;"⟩ : Cond) ∈ jw := jin (jt_3 _ (List.mem_of_getElem? (i := 191) rfl)) rfl
set_option maxRecDepth 100000 in
theorem m_1297 : (.selects "[I" ⟨"[I", "clone", "()Ljava/lang/Object;"⟩ ⟨"java/lang/Object", "clone", "()Ljava/lang/Object;"⟩ : Cond) ∈ jw := jin (jt_3 _ (List.mem_of_getElem? (i := 192) rfl)) rfl
set_option maxRecDepth 100000 in
theorem m_1298 : (.classLink RJ7 317 "[I" : Cond) ∈ jw := jin (jt_3 _ (List.mem_of_getElem? (i := 194) rfl)) rfl
set_option maxRecDepth 100000 in
theorem m_1299 : (.arrayClass .long : Cond) ∈ jw := jin (jt_1 _ (List.mem_of_getElem? (i := 88) rfl)) rfl
set_option maxRecDepth 100000 in
theorem m_1300 : (.methodLink RJ7 319 ⟨"[J", "clone", "()Ljava/lang/Object;"⟩ : Cond) ∈ jw := jin (jt_3 _ (List.mem_of_getElem? (i := 204) rfl)) rfl
set_option maxRecDepth 100000 in
theorem m_1301 : (.sameMethod "[J" "java/lang/Object" "clone" "()Ljava/lang/Object;" : Cond) ∈ jw := jin (jt_3 _ (List.mem_of_getElem? (i := 205) rfl)) rfl
set_option maxRecDepth 100000 in
theorem m_1302 : (.selects "[J" ⟨"[J", "clone", "()Ljava/lang/Object;"⟩ ⟨"java/lang/Object", "clone", "()Ljava/lang/Object;"⟩ : Cond) ∈ jw := jin (jt_3 _ (List.mem_of_getElem? (i := 206) rfl)) rfl
set_option maxRecDepth 100000 in
theorem m_1303 : (.classLink RJ7 320 "[J" : Cond) ∈ jw := jin (jt_3 _ (List.mem_of_getElem? (i := 208) rfl)) rfl
set_option maxRecDepth 100000 in
theorem m_1304 : (.classLink RX7 31 RX9 : Cond) ∈ jw := jin (jt_3 _ (List.mem_of_getElem? (i := 160) rfl)) rfl
set_option maxRecDepth 100000 in
theorem m_1305 : (.instantiable RX9 4 : Cond) ∈ jw := jin (jt_3 _ (List.mem_of_getElem? (i := 161) rfl)) rfl
set_option maxRecDepth 100000 in
theorem m_1306 : (.methodLink RX9 3 objectInit : Cond) ∈ jw := jin (jt_3 _ (List.mem_of_getElem? (i := 165) rfl)) rfl
set_option maxRecDepth 100000 in
theorem m_1307 : (.instanceMethod objectInit : Cond) ∈ jw := jin (jt_1 _ (List.mem_of_getElem? (i := 31) rfl)) rfl
set_option maxRecDepth 100000 in
theorem m_1308 : (.code objectInit ⟨#[0xb1]⟩ 1 none : Cond) ∈ jw := jin (jt_1 _ (List.mem_of_getElem? (i := 32) rfl)) rfl
set_option maxRecDepth 100000 in
theorem m_1309 : (.code yX9_init cX9_init 1 none : Cond) ∈ jw := jin (jt_3 _ (List.mem_of_getElem? (i := 164) rfl)) rfl
set_option maxRecDepth 100000 in
theorem m_1310 : (.instanceMethod yX9_init : Cond) ∈ jw := jin (jt_3 _ (List.mem_of_getElem? (i := 163) rfl)) rfl
set_option maxRecDepth 100000 in
theorem m_1311 : (.methodLink RX7 76 Lib.Math.max.name : Cond) ∈ jw := jin (jt_3 _ (List.mem_of_getElem? (i := 184) rfl)) rfl
set_option maxRecDepth 100000 in
theorem m_1312 : (.methodLink RX7 82 yJ7_copyOf_59c91 : Cond) ∈ jw := jin (jt_3 _ (List.mem_of_getElem? (i := 185) rfl)) rfl
set_option maxRecDepth 100000 in
theorem m_1313 : (.static yJ7_copyOf_59c91 : Cond) ∈ jw := jin (jt_3 _ (List.mem_of_getElem? (i := 186) rfl)) rfl
set_option maxRecDepth 100000 in
theorem m_1314 : (.code yJ7_copyOf_59c91 cJ7_copyOf_59c91 3 (some (.array .int)) : Cond) ∈ jw := jin (jt_3 _ (List.mem_of_getElem? (i := 187) rfl)) rfl
set_option maxRecDepth 100000 in
theorem m_1315 : (.methodLink RX7 87 ⟨"[I", "clone", "()Ljava/lang/Object;"⟩ : Cond) ∈ jw := jin (jt_3 _ (List.mem_of_getElem? (i := 199) rfl)) rfl
set_option maxRecDepth 100000 in
theorem m_1316 : (.classLink RX7 88 "[I" : Cond) ∈ jw := jin (jt_3 _ (List.mem_of_getElem? (i := 200) rfl)) rfl
set_option maxRecDepth 100000 in
theorem m_1317 : (.methodLink RX7 94 yJ7_copyOf_c38d5 : Cond) ∈ jw := jin (jt_3 _ (List.mem_of_getElem? (i := 201) rfl)) rfl
set_option maxRecDepth 100000 in
theorem m_1318 : (.static yJ7_copyOf_c38d5 : Cond) ∈ jw := jin (jt_3 _ (List.mem_of_getElem? (i := 202) rfl)) rfl
set_option maxRecDepth 100000 in
theorem m_1319 : (.code yJ7_copyOf_c38d5 cJ7_copyOf_c38d5 3 (some (.array .long)) : Cond) ∈ jw := jin (jt_3 _ (List.mem_of_getElem? (i := 203) rfl)) rfl
set_option maxRecDepth 100000 in
theorem m_1320 : (.methodLink RX12 114 yX8_hasRoomForSheet : Cond) ∈ jw := jin (jt_3 _ (List.mem_of_getElem? (i := 152) rfl)) rfl
set_option maxRecDepth 100000 in
theorem m_1321 : (.instanceMethod yX8_hasRoomForSheet : Cond) ∈ jw := jin (jt_3 _ (List.mem_of_getElem? (i := 153) rfl)) rfl
set_option maxRecDepth 100000 in
theorem m_1322 : (.selects RX8 yX8_hasRoomForSheet yX8_hasRoomForSheet : Cond) ∈ jw := jin (jt_3 _ (List.mem_of_getElem? (i := 154) rfl)) rfl
set_option maxRecDepth 100000 in
theorem m_1323 : (.code yX8_hasRoomForSheet cX8_hasRoomForSheet 1 (some .boolean) : Cond) ∈ jw := jin (jt_3 _ (List.mem_of_getElem? (i := 155) rfl)) rfl
set_option maxRecDepth 100000 in
theorem m_1324 : (.methodLink RX12 118 yX7_compiled : Cond) ∈ jw := jin (jt_3 _ (List.mem_of_getElem? (i := 156) rfl)) rfl
set_option maxRecDepth 100000 in
theorem m_1325 : (.instanceMethod yX7_compiled : Cond) ∈ jw := jin (jt_3 _ (List.mem_of_getElem? (i := 157) rfl)) rfl
set_option maxRecDepth 100000 in
theorem m_1326 : (.selects RX7 yX7_compiled yX7_compiled : Cond) ∈ jw := jin (jt_3 _ (List.mem_of_getElem? (i := 158) rfl)) rfl
set_option maxRecDepth 100000 in
theorem m_1327 : (.code yX7_compiled cX7_compiled 2 (some (.object "BookOfAll$Sheet")) : Cond) ∈ jw := jin (jt_3 _ (List.mem_of_getElem? (i := 159) rfl)) rfl
set_option maxRecDepth 100000 in
theorem m_1328 : (.methodLink RX12 122 yX8_keep : Cond) ∈ jw := jin (jt_3 _ (List.mem_of_getElem? (i := 209) rfl)) rfl
set_option maxRecDepth 100000 in
theorem m_1329 : (.instanceMethod yX8_keep : Cond) ∈ jw := jin (jt_3 _ (List.mem_of_getElem? (i := 210) rfl)) rfl
set_option maxRecDepth 100000 in
theorem m_1330 : (.selects RX8 yX8_keep yX8_keep : Cond) ∈ jw := jin (jt_3 _ (List.mem_of_getElem? (i := 211) rfl)) rfl
set_option maxRecDepth 100000 in
theorem m_1331 : (.code yX8_keep cX8_keep 2 (some .int) : Cond) ∈ jw := jin (jt_3 _ (List.mem_of_getElem? (i := 212) rfl)) rfl
set_option maxRecDepth 100000 in
theorem m_1332 : (.methodLink RX12 200 yX0_headingSize : Cond) ∈ jw := jin (jt_4 _ (List.mem_of_getElem? (i := 88) rfl)) rfl
set_option maxRecDepth 100000 in
theorem m_1333 : (.static yX0_headingSize : Cond) ∈ jw := jin (jt_4 _ (List.mem_of_getElem? (i := 89) rfl)) rfl
set_option maxRecDepth 100000 in
theorem m_1334 : (.code yX0_headingSize cX0_headingSize 8 (some .int) : Cond) ∈ jw := jin (jt_4 _ (List.mem_of_getElem? (i := 90) rfl)) rfl
set_option maxRecDepth 100000 in
theorem m_1335 : (.classLink RX12 41 RX0 : Cond) ∈ jw := jin (jt_1 _ (List.mem_of_getElem? (i := 186) rfl)) rfl
set_option maxRecDepth 100000 in
theorem m_1336 : (.instantiable RX0 18 : Cond) ∈ jw := jin (jt_4 _ (List.mem_of_getElem? (i := 98) rfl)) rfl
set_option maxRecDepth 100000 in
theorem m_1337 : (.methodLink RX0 3 objectInit : Cond) ∈ jw := jin (jt_4 _ (List.mem_of_getElem? (i := 102) rfl)) rfl
set_option maxRecDepth 100000 in
theorem m_1338 : (.fieldLink RX0 9 "BookOfAll$Entry" "to" "I" : Cond) ∈ jw := jin (jt_4 _ (List.mem_of_getElem? (i := 121) rfl)) rfl
set_option maxRecDepth 100000 in
theorem m_1339 : (.fieldLink RX0 15 "BookOfAll$Entry" "setWith" "I" : Cond) ∈ jw := jin (jt_4 _ (List.mem_of_getElem? (i := 125) rfl)) rfl
set_option maxRecDepth 100000 in
theorem m_1340 : (.fieldLink RX0 18 "BookOfAll$Entry" "begins" "I" : Cond) ∈ jw := jin (jt_4 _ (List.mem_of_getElem? (i := 127) rfl)) rfl
set_option maxRecDepth 100000 in
theorem m_1341 : (.fieldLink RX0 24 "BookOfAll$Entry" "number" "I" : Cond) ∈ jw := jin (jt_4 _ (List.mem_of_getElem? (i := 104) rfl)) rfl
set_option maxRecDepth 100000 in
theorem m_1342 : (.methodLink RX0 30 Lib.Math.max.name : Cond) ∈ jw := jin (jt_4 _ (List.mem_of_getElem? (i := 103) rfl)) rfl
set_option maxRecDepth 100000 in
theorem m_1343 : (.initialized "java/lang/Math" : Cond) ∈ jw := jin (jt_1 _ (List.mem_of_getElem? (i := 6) rfl)) rfl
set_option maxRecDepth 100000 in
theorem m_1344 : (.code yX0_init cX0_init 4 none : Cond) ∈ jw := jin (jt_4 _ (List.mem_of_getElem? (i := 101) rfl)) rfl
set_option maxRecDepth 100000 in
theorem m_1345 : (.methodLink RX12 206 yX0_init : Cond) ∈ jw := jin (jt_4 _ (List.mem_of_getElem? (i := 99) rfl)) rfl
set_option maxRecDepth 100000 in
theorem m_1346 : (.instanceMethod yX0_init : Cond) ∈ jw := jin (jt_4 _ (List.mem_of_getElem? (i := 100) rfl)) rfl
set_option maxRecDepth 100000 in
theorem m_1347 : (.methodLink RX12 209 yX0_readHeading : Cond) ∈ jw := jin (jt_4 _ (List.mem_of_getElem? (i := 172) rfl)) rfl
set_option maxRecDepth 100000 in
theorem m_1348 : (.instanceMethod yX0_readHeading : Cond) ∈ jw := jin (jt_4 _ (List.mem_of_getElem? (i := 173) rfl)) rfl
set_option maxRecDepth 100000 in
theorem m_1349 : (.selects RX0 yX0_readHeading yX0_readHeading : Cond) ∈ jw := jin (jt_4 _ (List.mem_of_getElem? (i := 174) rfl)) rfl
set_option maxRecDepth 100000 in
theorem m_1350 : (.code yX0_readHeading cX0_readHeading 5 none : Cond) ∈ jw := jin (jt_4 _ (List.mem_of_getElem? (i := 175) rfl)) rfl
set_option maxRecDepth 100000 in
theorem m_1351 : (.methodLink RX12 173 yX12_newEntry : Cond) ∈ jw := jin (jt_4 _ (List.mem_of_getElem? (i := 84) rfl)) rfl
set_option maxRecDepth 100000 in
theorem m_1352 : (.instanceMethod yX12_newEntry : Cond) ∈ jw := jin (jt_4 _ (List.mem_of_getElem? (i := 86) rfl)) rfl
set_option maxRecDepth 100000 in
theorem m_1353 : (.selects RX12 yX12_newEntry yX12_newEntry : Cond) ∈ jw := jin (jt_p _ (List.mem_of_getElem? (i := 35) rfl)) rfl
set_option maxRecDepth 100000 in
theorem m_1354 : (.code yX12_newEntry cX12_newEntry 7 (some (.object "BookOfAll$Entry")) : Cond) ∈ jw := jin (jt_4 _ (List.mem_of_getElem? (i := 87) rfl)) rfl
set_option maxRecDepth 100000 in
theorem m_1355 : (.methodLink RX12 196 yX12_areEntries : Cond) ∈ jw := jin (jt_4 _ (List.mem_of_getElem? (i := 184) rfl)) rfl
set_option maxRecDepth 100000 in
theorem m_1356 : (.instanceMethod yX12_areEntries : Cond) ∈ jw := jin (jt_4 _ (List.mem_of_getElem? (i := 186) rfl)) rfl
set_option maxRecDepth 100000 in
theorem m_1357 : (.selects RX12 yX12_areEntries yX12_areEntries : Cond) ∈ jw := jin (jt_p _ (List.mem_of_getElem? (i := 36) rfl)) rfl
set_option maxRecDepth 100000 in
theorem m_1358 : (.code yX12_areEntries cX12_areEntries 8 (some .boolean) : Cond) ∈ jw := jin (jt_4 _ (List.mem_of_getElem? (i := 187) rfl)) rfl
set_option maxRecDepth 100000 in
theorem m_1359 : (.classLink RX12 51 RX2 : Cond) ∈ jw := jin (jt_1 _ (List.mem_of_getElem? (i := 188) rfl)) rfl
set_option maxRecDepth 100000 in
theorem m_1360 : (.instantiable RX2 6 : Cond) ∈ jw := jin (jt_5 _ (List.mem_of_getElem? (i := 20) rfl)) rfl
set_option maxRecDepth 100000 in
theorem m_1361 : (.initialized RX2 : Cond) ∈ jw := jin (jt_1 _ (List.mem_of_getElem? (i := 21) rfl)) rfl
set_option maxRecDepth 100000 in
theorem m_1362 : (.methodLink RX2 1 objectInit : Cond) ∈ jw := jin (jt_5 _ (List.mem_of_getElem? (i := 24) rfl)) rfl
set_option maxRecDepth 100000 in
theorem m_1363 : (.fieldLink RX2 7 "BookOfAll$Hand" "lives" "Z" : Cond) ∈ jw := jin (jt_5 _ (List.mem_of_getElem? (i := 31) rfl)) rfl
set_option maxRecDepth 100000 in
theorem m_1364 : (.fieldLink RX2 13 "BookOfAll$Hand" "fields" "I" : Cond) ∈ jw := jin (jt_5 _ (List.mem_of_getElem? (i := 25) rfl)) rfl
set_option maxRecDepth 100000 in
theorem m_1365 : (.fieldLink RX2 17 "BookOfAll$Hand" "skill" "I" : Cond) ∈ jw := jin (jt_5 _ (List.mem_of_getElem? (i := 27) rfl)) rfl
set_option maxRecDepth 100000 in
theorem m_1366 : (.fieldLink RX2 20 "BookOfAll$Hand" "born" "I" : Cond) ∈ jw := jin (jt_5 _ (List.mem_of_getElem? (i := 29) rfl)) rfl
set_option maxRecDepth 100000 in
theorem m_1367 : (.code yX2_init cX2_init 4 none : Cond) ∈ jw := jin (jt_5 _ (List.mem_of_getElem? (i := 23) rfl)) rfl
set_option maxRecDepth 100000 in
theorem m_1368 : (.methodLink RX12 295 yX2_init : Cond) ∈ jw := jin (jt_5 _ (List.mem_of_getElem? (i := 21) rfl)) rfl
set_option maxRecDepth 100000 in
theorem m_1369 : (.instanceMethod yX2_init : Cond) ∈ jw := jin (jt_5 _ (List.mem_of_getElem? (i := 22) rfl)) rfl
set_option maxRecDepth 100000 in
theorem m_1370 : (.constant RX12 291 (-40000) : Cond) ∈ jw := jin (jt_5 _ (List.mem_of_getElem? (i := 19) rfl)) rfl
set_option maxRecDepth 100000 in
theorem m_1371 : (.methodLink RX12 371 yX12_canLean : Cond) ∈ jw := jin (jt_5 _ (List.mem_of_getElem? (i := 111) rfl)) rfl
set_option maxRecDepth 100000 in
theorem m_1372 : (.instanceMethod yX12_canLean : Cond) ∈ jw := jin (jt_5 _ (List.mem_of_getElem? (i := 113) rfl)) rfl
set_option maxRecDepth 100000 in
theorem m_1373 : (.selects RX12 yX12_canLean yX12_canLean : Cond) ∈ jw := jin (jt_p _ (List.mem_of_getElem? (i := 52) rfl)) rfl
set_option maxRecDepth 100000 in
theorem m_1374 : (.code yX12_canLean cX12_canLean 2 (some .boolean) : Cond) ∈ jw := jin (jt_5 _ (List.mem_of_getElem? (i := 114) rfl)) rfl
set_option maxRecDepth 100000 in
theorem m_1375 : (.classLink RX12 57 RX4 : Cond) ∈ jw := jin (jt_1 _ (List.mem_of_getElem? (i := 190) rfl)) rfl
set_option maxRecDepth 100000 in
theorem m_1376 : (.instantiable RX4 9 : Cond) ∈ jw := jin (jt_5 _ (List.mem_of_getElem? (i := 127) rfl)) rfl
set_option maxRecDepth 100000 in
theorem m_1377 : (.initialized RX4 : Cond) ∈ jw := jin (jt_1 _ (List.mem_of_getElem? (i := 23) rfl)) rfl
set_option maxRecDepth 100000 in
theorem m_1378 : (.methodLink RX4 3 objectInit : Cond) ∈ jw := jin (jt_5 _ (List.mem_of_getElem? (i := 131) rfl)) rfl
set_option maxRecDepth 100000 in
theorem m_1379 : (.fieldLink RX4 9 "BookOfAll$Line" "fact" "I" : Cond) ∈ jw := jin (jt_5 _ (List.mem_of_getElem? (i := 138) rfl)) rfl
set_option maxRecDepth 100000 in
theorem m_1380 : (.fieldLink RX4 15 "BookOfAll$Line" "leansOn" "I" : Cond) ∈ jw := jin (jt_5 _ (List.mem_of_getElem? (i := 140) rfl)) rfl
set_option maxRecDepth 100000 in
theorem m_1381 : (.fieldLink RX4 18 "BookOfAll$Line" "root" "I" : Cond) ∈ jw := jin (jt_5 _ (List.mem_of_getElem? (i := 142) rfl)) rfl
set_option maxRecDepth 100000 in
theorem m_1382 : (.fieldLink RX4 21 "BookOfAll$Line" "keeps" "I" : Cond) ∈ jw := jin (jt_5 _ (List.mem_of_getElem? (i := 144) rfl)) rfl
set_option maxRecDepth 100000 in
theorem m_1383 : (.fieldLink RX4 24 "BookOfAll$Line" "place" "I" : Cond) ∈ jw := jin (jt_5 _ (List.mem_of_getElem? (i := 146) rfl)) rfl
set_option maxRecDepth 100000 in
theorem m_1384 : (.fieldLink RX4 27 "BookOfAll$Line" "entry" "I" : Cond) ∈ jw := jin (jt_5 _ (List.mem_of_getElem? (i := 132) rfl)) rfl
set_option maxRecDepth 100000 in
theorem m_1385 : (.fieldLink RX4 30 "BookOfAll$Line" "hand" "I" : Cond) ∈ jw := jin (jt_5 _ (List.mem_of_getElem? (i := 134) rfl)) rfl
set_option maxRecDepth 100000 in
theorem m_1386 : (.fieldLink RX4 33 "BookOfAll$Line" "term" "I" : Cond) ∈ jw := jin (jt_5 _ (List.mem_of_getElem? (i := 136) rfl)) rfl
set_option maxRecDepth 100000 in
theorem m_1387 : (.code yX4_init cX4_init 4 none : Cond) ∈ jw := jin (jt_5 _ (List.mem_of_getElem? (i := 130) rfl)) rfl
set_option maxRecDepth 100000 in
theorem m_1388 : (.methodLink RX12 374 yX4_init : Cond) ∈ jw := jin (jt_5 _ (List.mem_of_getElem? (i := 128) rfl)) rfl
set_option maxRecDepth 100000 in
theorem m_1389 : (.instanceMethod yX4_init : Cond) ∈ jw := jin (jt_5 _ (List.mem_of_getElem? (i := 129) rfl)) rfl
set_option maxRecDepth 100000 in
theorem m_1390 : (.methodLink RX12 375 yX12_lean : Cond) ∈ jw := jin (jt_5 _ (List.mem_of_getElem? (i := 168) rfl)) rfl
set_option maxRecDepth 100000 in
theorem m_1391 : (.instanceMethod yX12_lean : Cond) ∈ jw := jin (jt_5 _ (List.mem_of_getElem? (i := 170) rfl)) rfl
set_option maxRecDepth 100000 in
theorem m_1392 : (.selects RX12 yX12_lean yX12_lean : Cond) ∈ jw := jin (jt_p _ (List.mem_of_getElem? (i := 55) rfl)) rfl
set_option maxRecDepth 100000 in
theorem m_1393 : (.code yX12_lean cX12_lean 4 none : Cond) ∈ jw := jin (jt_5 _ (List.mem_of_getElem? (i := 171) rfl)) rfl
set_option maxRecDepth 100000 in
theorem m_1394 : (.methodLink RX12 455 yX12_linesInRow : Cond) ∈ jw := jin (jt_6 _ (List.mem_of_getElem? (i := 25) rfl)) rfl
set_option maxRecDepth 100000 in
theorem m_1395 : (.instanceMethod yX12_linesInRow : Cond) ∈ jw := jin (jt_6 _ (List.mem_of_getElem? (i := 27) rfl)) rfl
set_option maxRecDepth 100000 in
theorem m_1396 : (.selects RX12 yX12_linesInRow yX12_linesInRow : Cond) ∈ jw := jin (jt_p _ (List.mem_of_getElem? (i := 63) rfl)) rfl
set_option maxRecDepth 100000 in
theorem m_1397 : (.code yX12_linesInRow cX12_linesInRow 4 (some .int) : Cond) ∈ jw := jin (jt_6 _ (List.mem_of_getElem? (i := 28) rfl)) rfl
set_option maxRecDepth 100000 in
theorem m_1398 : (.methodLink RX12 461 yJ7_copyOf_59c91 : Cond) ∈ jw := jin (jt_6 _ (List.mem_of_getElem? (i := 29) rfl)) rfl
set_option maxRecDepth 100000 in
theorem m_1399 : (.methodLink RX12 471 yX12_layLines : Cond) ∈ jw := jin (jt_6 _ (List.mem_of_getElem? (i := 30) rfl)) rfl
set_option maxRecDepth 100000 in
theorem m_1400 : (.instanceMethod yX12_layLines : Cond) ∈ jw := jin (jt_6 _ (List.mem_of_getElem? (i := 32) rfl)) rfl
set_option maxRecDepth 100000 in
theorem m_1401 : (.selects RX12 yX12_layLines yX12_layLines : Cond) ∈ jw := jin (jt_p _ (List.mem_of_getElem? (i := 64) rfl)) rfl
set_option maxRecDepth 100000 in
theorem m_1402 : (.code yX12_layLines cX12_layLines 6 none : Cond) ∈ jw := jin (jt_6 _ (List.mem_of_getElem? (i := 33) rfl)) rfl
set_option maxRecDepth 100000 in
theorem m_1403 : (.methodLink RX12 443 yX12_rowMayBeSet : Cond) ∈ jw := jin (jt_6 _ (List.mem_of_getElem? (i := 13) rfl)) rfl
set_option maxRecDepth 100000 in
theorem m_1404 : (.instanceMethod yX12_rowMayBeSet : Cond) ∈ jw := jin (jt_6 _ (List.mem_of_getElem? (i := 15) rfl)) rfl
set_option maxRecDepth 100000 in
theorem m_1405 : (.selects RX12 yX12_rowMayBeSet yX12_rowMayBeSet : Cond) ∈ jw := jin (jt_p _ (List.mem_of_getElem? (i := 60) rfl)) rfl
set_option maxRecDepth 100000 in
theorem m_1406 : (.code yX12_rowMayBeSet cX12_rowMayBeSet 3 (some .boolean) : Cond) ∈ jw := jin (jt_6 _ (List.mem_of_getElem? (i := 16) rfl)) rfl
set_option maxRecDepth 100000 in
theorem m_1407 : (.methodLink RX12 446 yX12_lay : Cond) ∈ jw := jin (jt_6 _ (List.mem_of_getElem? (i := 21) rfl)) rfl
set_option maxRecDepth 100000 in
theorem m_1408 : (.instanceMethod yX12_lay : Cond) ∈ jw := jin (jt_6 _ (List.mem_of_getElem? (i := 23) rfl)) rfl
set_option maxRecDepth 100000 in
theorem m_1409 : (.selects RX12 yX12_lay yX12_lay : Cond) ∈ jw := jin (jt_p _ (List.mem_of_getElem? (i := 62) rfl)) rfl
set_option maxRecDepth 100000 in
theorem m_1410 : (.code yX12_lay cX12_lay 5 none : Cond) ∈ jw := jin (jt_6 _ (List.mem_of_getElem? (i := 24) rfl)) rfl
set_option maxRecDepth 100000 in
theorem m_1411 : (.constantLong RX13 246 (-1000000) : Cond) ∈ jw := jin (jt_9 _ (List.mem_of_getElem? (i := 82) rfl)) rfl
set_option maxRecDepth 100000 in
theorem m_1412 : (.constantLong RX13 249 1000000 : Cond) ∈ jw := jin (jt_9 _ (List.mem_of_getElem? (i := 84) rfl)) rfl
set_option maxRecDepth 100000 in
theorem m_1413 : (.methodLink RX13 262 yJ0_length_8abf5 : Cond) ∈ jw := jin (jt_8 _ (List.mem_of_getElem? (i := 159) rfl)) rfl
set_option maxRecDepth 100000 in
theorem m_1414 : (.methodLink RX13 268 yJ0_charAt_5068e : Cond) ∈ jw := jin (jt_8 _ (List.mem_of_getElem? (i := 160) rfl)) rfl
set_option maxRecDepth 100000 in
theorem m_1415 : (.methodLink RL 13 yX12_feed : Cond) ∈ jw := jin (jt_2 _ (List.mem_of_getElem? (i := 146) rfl)) rfl
set_option maxRecDepth 100000 in
theorem m_1416 : (.instanceMethod yX12_feed : Cond) ∈ jw := jin (jt_2 _ (List.mem_of_getElem? (i := 147) rfl)) rfl
set_option maxRecDepth 100000 in
theorem m_1417 : (.selects RX12 yX12_feed yX12_feed : Cond) ∈ jw := jin (jt_2 _ (List.mem_of_getElem? (i := 148) rfl)) rfl
set_option maxRecDepth 100000 in
theorem m_1418 : (.code yX12_feed cX12_feed 6 (some .int) : Cond) ∈ jw := jin (jt_2 _ (List.mem_of_getElem? (i := 149) rfl)) rfl
set_option maxRecDepth 100000 in
theorem m_1419 : (.methodLink RL 17 yX13_feed : Cond) ∈ jw := jin (jt_8 _ (List.mem_of_getElem? (i := 128) rfl)) rfl
set_option maxRecDepth 100000 in
theorem m_1420 : (.methodLink RL 18 yX12_end : Cond) ∈ jw := jin (jt_2 _ (List.mem_of_getElem? (i := 154) rfl)) rfl
set_option maxRecDepth 100000 in
theorem m_1421 : (.instanceMethod yX12_end : Cond) ∈ jw := jin (jt_2 _ (List.mem_of_getElem? (i := 155) rfl)) rfl
set_option maxRecDepth 100000 in
theorem m_1422 : (.selects RX12 yX12_end yX12_end : Cond) ∈ jw := jin (jt_2 _ (List.mem_of_getElem? (i := 156) rfl)) rfl
set_option maxRecDepth 100000 in
theorem m_1423 : (.code yX12_end cX12_end 2 (some .boolean) : Cond) ∈ jw := jin (jt_2 _ (List.mem_of_getElem? (i := 157) rfl)) rfl
set_option maxRecDepth 100000 in
theorem m_1424 : (.methodLink RL 22 yX13_end : Cond) ∈ jw := jin (jt_8 _ (List.mem_of_getElem? (i := 132) rfl)) rfl
set_option maxRecDepth 100000 in
theorem m_1425 : (.methodLink RL 23 yX12_fault : Cond) ∈ jw := jin (jt_2 _ (List.mem_of_getElem? (i := 158) rfl)) rfl
set_option maxRecDepth 100000 in
theorem m_1426 : (.instanceMethod yX12_fault : Cond) ∈ jw := jin (jt_2 _ (List.mem_of_getElem? (i := 159) rfl)) rfl
set_option maxRecDepth 100000 in
theorem m_1427 : (.selects RX12 yX12_fault yX12_fault : Cond) ∈ jw := jin (jt_2 _ (List.mem_of_getElem? (i := 160) rfl)) rfl
set_option maxRecDepth 100000 in
theorem m_1428 : (.code yX12_fault cX12_fault 1 (some .int) : Cond) ∈ jw := jin (jt_2 _ (List.mem_of_getElem? (i := 161) rfl)) rfl
set_option maxRecDepth 100000 in
theorem m_1429 : (.methodLink RL 27 yX13_fault : Cond) ∈ jw := jin (jt_8 _ (List.mem_of_getElem? (i := 139) rfl)) rfl
set_option maxRecDepth 100000 in
theorem m_1430 : (.methodLink RL 28 yX12_sheet : Cond) ∈ jw := jin (jt_3 _ (List.mem_of_getElem? (i := 148) rfl)) rfl
set_option maxRecDepth 100000 in
theorem m_1431 : (.instanceMethod yX12_sheet : Cond) ∈ jw := jin (jt_3 _ (List.mem_of_getElem? (i := 149) rfl)) rfl
set_option maxRecDepth 100000 in
theorem m_1432 : (.selects RX12 yX12_sheet yX12_sheet : Cond) ∈ jw := jin (jt_3 _ (List.mem_of_getElem? (i := 150) rfl)) rfl
set_option maxRecDepth 100000 in
theorem m_1433 : (.code yX12_sheet cX12_sheet 2 (some .int) : Cond) ∈ jw := jin (jt_3 _ (List.mem_of_getElem? (i := 151) rfl)) rfl
set_option maxRecDepth 100000 in
theorem m_1434 : (.methodLink RL 31 yX13_sheet : Cond) ∈ jw := jin (jt_8 _ (List.mem_of_getElem? (i := 234) rfl)) rfl
set_option maxRecDepth 100000 in
theorem m_1435 : (.methodLink RL 32 yX12_force : Cond) ∈ jw := jin (jt_3 _ (List.mem_of_getElem? (i := 213) rfl)) rfl
set_option maxRecDepth 100000 in
theorem m_1436 : (.instanceMethod yX12_force : Cond) ∈ jw := jin (jt_3 _ (List.mem_of_getElem? (i := 214) rfl)) rfl
set_option maxRecDepth 100000 in
theorem m_1437 : (.selects RX12 yX12_force yX12_force : Cond) ∈ jw := jin (jt_3 _ (List.mem_of_getElem? (i := 215) rfl)) rfl
set_option maxRecDepth 100000 in
theorem m_1438 : (.code yX12_force cX12_force 5 (some .int) : Cond) ∈ jw := jin (jt_3 _ (List.mem_of_getElem? (i := 216) rfl)) rfl
set_option maxRecDepth 100000 in
theorem m_1439 : (.methodLink RL 36 yX13_force : Cond) ∈ jw := jin (jt_8 _ (List.mem_of_getElem? (i := 238) rfl)) rfl
set_option maxRecDepth 100000 in
theorem m_1440 : (.methodLink RL 37 yX12_rule : Cond) ∈ jw := jin (jt_4 _ (List.mem_of_getElem? (i := 63) rfl)) rfl
set_option maxRecDepth 100000 in
theorem m_1441 : (.instanceMethod yX12_rule : Cond) ∈ jw := jin (jt_4 _ (List.mem_of_getElem? (i := 64) rfl)) rfl
set_option maxRecDepth 100000 in
theorem m_1442 : (.selects RX12 yX12_rule yX12_rule : Cond) ∈ jw := jin (jt_4 _ (List.mem_of_getElem? (i := 65) rfl)) rfl
set_option maxRecDepth 100000 in
theorem m_1443 : (.code yX12_rule cX12_rule 5 (some .int) : Cond) ∈ jw := jin (jt_4 _ (List.mem_of_getElem? (i := 66) rfl)) rfl
set_option maxRecDepth 100000 in
theorem m_1444 : (.methodLink RL 41 yX13_rule : Cond) ∈ jw := jin (jt_9 _ (List.mem_of_getElem? (i := 5) rfl)) rfl
set_option maxRecDepth 100000 in
theorem m_1445 : (.methodLink RL 42 yX12_go : Cond) ∈ jw := jin (jt_4 _ (List.mem_of_getElem? (i := 71) rfl)) rfl
set_option maxRecDepth 100000 in
theorem m_1446 : (.instanceMethod yX12_go : Cond) ∈ jw := jin (jt_4 _ (List.mem_of_getElem? (i := 72) rfl)) rfl
set_option maxRecDepth 100000 in
theorem m_1447 : (.selects RX12 yX12_go yX12_go : Cond) ∈ jw := jin (jt_4 _ (List.mem_of_getElem? (i := 73) rfl)) rfl
set_option maxRecDepth 100000 in
theorem m_1448 : (.code yX12_go cX12_go 2 (some .int) : Cond) ∈ jw := jin (jt_4 _ (List.mem_of_getElem? (i := 74) rfl)) rfl
set_option maxRecDepth 100000 in
theorem m_1449 : (.methodLink RL 46 yX13_go : Cond) ∈ jw := jin (jt_9 _ (List.mem_of_getElem? (i := 13) rfl)) rfl
set_option maxRecDepth 100000 in
theorem m_1450 : (.methodLink RL 47 yX12_bound : Cond) ∈ jw := jin (jt_4 _ (List.mem_of_getElem? (i := 76) rfl)) rfl
set_option maxRecDepth 100000 in
theorem m_1451 : (.instanceMethod yX12_bound : Cond) ∈ jw := jin (jt_4 _ (List.mem_of_getElem? (i := 77) rfl)) rfl
set_option maxRecDepth 100000 in
theorem m_1452 : (.selects RX12 yX12_bound yX12_bound : Cond) ∈ jw := jin (jt_4 _ (List.mem_of_getElem? (i := 78) rfl)) rfl
set_option maxRecDepth 100000 in
theorem m_1453 : (.code yX12_bound cX12_bound 4 (some .boolean) : Cond) ∈ jw := jin (jt_4 _ (List.mem_of_getElem? (i := 79) rfl)) rfl
set_option maxRecDepth 100000 in
theorem m_1454 : (.methodLink RL 51 yX13_bound : Cond) ∈ jw := jin (jt_9 _ (List.mem_of_getElem? (i := 17) rfl)) rfl
set_option maxRecDepth 100000 in
theorem m_1455 : (.methodLink RL 52 yX12_article : Cond) ∈ jw := jin (jt_4 _ (List.mem_of_getElem? (i := 80) rfl)) rfl
set_option maxRecDepth 100000 in
theorem m_1456 : (.instanceMethod yX12_article : Cond) ∈ jw := jin (jt_4 _ (List.mem_of_getElem? (i := 81) rfl)) rfl
set_option maxRecDepth 100000 in
theorem m_1457 : (.selects RX12 yX12_article yX12_article : Cond) ∈ jw := jin (jt_4 _ (List.mem_of_getElem? (i := 82) rfl)) rfl
set_option maxRecDepth 100000 in
theorem m_1458 : (.code yX12_article cX12_article 9 (some .int) : Cond) ∈ jw := jin (jt_4 _ (List.mem_of_getElem? (i := 83) rfl)) rfl
set_option maxRecDepth 100000 in
theorem m_1459 : (.methodLink RL 56 yX13_article : Cond) ∈ jw := jin (jt_9 _ (List.mem_of_getElem? (i := 21) rfl)) rfl
set_option maxRecDepth 100000 in
theorem m_1460 : (.methodLink RL 57 yX12_pointer : Cond) ∈ jw := jin (jt_4 _ (List.mem_of_getElem? (i := 176) rfl)) rfl
set_option maxRecDepth 100000 in
theorem m_1461 : (.instanceMethod yX12_pointer : Cond) ∈ jw := jin (jt_4 _ (List.mem_of_getElem? (i := 177) rfl)) rfl
set_option maxRecDepth 100000 in
theorem m_1462 : (.selects RX12 yX12_pointer yX12_pointer : Cond) ∈ jw := jin (jt_4 _ (List.mem_of_getElem? (i := 178) rfl)) rfl
set_option maxRecDepth 100000 in
theorem m_1463 : (.code yX12_pointer cX12_pointer 6 (some .int) : Cond) ∈ jw := jin (jt_4 _ (List.mem_of_getElem? (i := 179) rfl)) rfl
set_option maxRecDepth 100000 in
theorem m_1464 : (.methodLink RL 60 yX13_pointer : Cond) ∈ jw := jin (jt_9 _ (List.mem_of_getElem? (i := 33) rfl)) rfl
set_option maxRecDepth 100000 in
theorem m_1465 : (.methodLink RL 61 yX12_plate : Cond) ∈ jw := jin (jt_4 _ (List.mem_of_getElem? (i := 180) rfl)) rfl
set_option maxRecDepth 100000 in
theorem m_1466 : (.instanceMethod yX12_plate : Cond) ∈ jw := jin (jt_4 _ (List.mem_of_getElem? (i := 181) rfl)) rfl
set_option maxRecDepth 100000 in
theorem m_1467 : (.selects RX12 yX12_plate yX12_plate : Cond) ∈ jw := jin (jt_4 _ (List.mem_of_getElem? (i := 182) rfl)) rfl
set_option maxRecDepth 100000 in
theorem m_1468 : (.code yX12_plate cX12_plate 7 (some .int) : Cond) ∈ jw := jin (jt_4 _ (List.mem_of_getElem? (i := 183) rfl)) rfl
set_option maxRecDepth 100000 in
theorem m_1469 : (.methodLink RL 64 yX13_plate : Cond) ∈ jw := jin (jt_9 _ (List.mem_of_getElem? (i := 41) rfl)) rfl
set_option maxRecDepth 100000 in
theorem m_1470 : (.methodLink RL 65 yX12_points : Cond) ∈ jw := jin (jt_4 _ (List.mem_of_getElem? (i := 188) rfl)) rfl
set_option maxRecDepth 100000 in
theorem m_1471 : (.instanceMethod yX12_points : Cond) ∈ jw := jin (jt_4 _ (List.mem_of_getElem? (i := 189) rfl)) rfl
set_option maxRecDepth 100000 in
theorem m_1472 : (.selects RX12 yX12_points yX12_points : Cond) ∈ jw := jin (jt_4 _ (List.mem_of_getElem? (i := 190) rfl)) rfl
set_option maxRecDepth 100000 in
theorem m_1473 : (.code yX12_points cX12_points 4 (some .boolean) : Cond) ∈ jw := jin (jt_4 _ (List.mem_of_getElem? (i := 191) rfl)) rfl
set_option maxRecDepth 100000 in
theorem m_1474 : (.methodLink RL 68 yX13_points : Cond) ∈ jw := jin (jt_9 _ (List.mem_of_getElem? (i := 45) rfl)) rfl
set_option maxRecDepth 100000 in
theorem m_1475 : (.methodLink RL 69 yX12_strike : Cond) ∈ jw := jin (jt_4 _ (List.mem_of_getElem? (i := 196) rfl)) rfl
set_option maxRecDepth 100000 in
theorem m_1476 : (.instanceMethod yX12_strike : Cond) ∈ jw := jin (jt_4 _ (List.mem_of_getElem? (i := 197) rfl)) rfl
set_option maxRecDepth 100000 in
theorem m_1477 : (.selects RX12 yX12_strike yX12_strike : Cond) ∈ jw := jin (jt_4 _ (List.mem_of_getElem? (i := 198) rfl)) rfl
set_option maxRecDepth 100000 in
theorem m_1478 : (.code yX12_strike cX12_strike 2 (some .boolean) : Cond) ∈ jw := jin (jt_4 _ (List.mem_of_getElem? (i := 199) rfl)) rfl
set_option maxRecDepth 100000 in
theorem m_1479 : (.methodLink RL 72 yX13_strike : Cond) ∈ jw := jin (jt_9 _ (List.mem_of_getElem? (i := 89) rfl)) rfl
set_option maxRecDepth 100000 in
theorem m_1480 : (.methodLink RL 73 yX12_later : Cond) ∈ jw := jin (jt_4 _ (List.mem_of_getElem? (i := 208) rfl)) rfl
set_option maxRecDepth 100000 in
theorem m_1481 : (.instanceMethod yX12_later : Cond) ∈ jw := jin (jt_4 _ (List.mem_of_getElem? (i := 209) rfl)) rfl
set_option maxRecDepth 100000 in
theorem m_1482 : (.selects RX12 yX12_later yX12_later : Cond) ∈ jw := jin (jt_4 _ (List.mem_of_getElem? (i := 210) rfl)) rfl
set_option maxRecDepth 100000 in
theorem m_1483 : (.code yX12_later cX12_later 2 (some .boolean) : Cond) ∈ jw := jin (jt_4 _ (List.mem_of_getElem? (i := 211) rfl)) rfl
set_option maxRecDepth 100000 in
theorem m_1484 : (.methodLink RL 76 yX13_later : Cond) ∈ jw := jin (jt_9 _ (List.mem_of_getElem? (i := 97) rfl)) rfl
set_option maxRecDepth 100000 in
theorem m_1485 : (.methodLink RL 77 yX12_volume : Cond) ∈ jw := jin (jt_4 _ (List.mem_of_getElem? (i := 212) rfl)) rfl
set_option maxRecDepth 100000 in
theorem m_1486 : (.instanceMethod yX12_volume : Cond) ∈ jw := jin (jt_4 _ (List.mem_of_getElem? (i := 213) rfl)) rfl
set_option maxRecDepth 100000 in
theorem m_1487 : (.selects RX12 yX12_volume yX12_volume : Cond) ∈ jw := jin (jt_4 _ (List.mem_of_getElem? (i := 214) rfl)) rfl
set_option maxRecDepth 100000 in
theorem m_1488 : (.code yX12_volume cX12_volume 3 (some .int) : Cond) ∈ jw := jin (jt_4 _ (List.mem_of_getElem? (i := 215) rfl)) rfl
set_option maxRecDepth 100000 in
theorem m_1489 : (.methodLink RL 80 yX13_volume : Cond) ∈ jw := jin (jt_9 _ (List.mem_of_getElem? (i := 49) rfl)) rfl
set_option maxRecDepth 100000 in
theorem m_1490 : (.methodLink RL 81 yX12_at : Cond) ∈ jw := jin (jt_4 _ (List.mem_of_getElem? (i := 220) rfl)) rfl
set_option maxRecDepth 100000 in
theorem m_1491 : (.instanceMethod yX12_at : Cond) ∈ jw := jin (jt_4 _ (List.mem_of_getElem? (i := 221) rfl)) rfl
set_option maxRecDepth 100000 in
theorem m_1492 : (.selects RX12 yX12_at yX12_at : Cond) ∈ jw := jin (jt_4 _ (List.mem_of_getElem? (i := 222) rfl)) rfl
set_option maxRecDepth 100000 in
theorem m_1493 : (.code yX12_at cX12_at 4 (some .int) : Cond) ∈ jw := jin (jt_4 _ (List.mem_of_getElem? (i := 223) rfl)) rfl
set_option maxRecDepth 100000 in
theorem m_1494 : (.methodLink RL 84 yX13_at : Cond) ∈ jw := jin (jt_9 _ (List.mem_of_getElem? (i := 101) rfl)) rfl
set_option maxRecDepth 100000 in
theorem m_1495 : (.methodLink RL 85 yX12_why : Cond) ∈ jw := jin (jt_5 _ (List.mem_of_getElem? (i := 6) rfl)) rfl
set_option maxRecDepth 100000 in
theorem m_1496 : (.instanceMethod yX12_why : Cond) ∈ jw := jin (jt_5 _ (List.mem_of_getElem? (i := 7) rfl)) rfl
set_option maxRecDepth 100000 in
theorem m_1497 : (.selects RX12 yX12_why yX12_why : Cond) ∈ jw := jin (jt_5 _ (List.mem_of_getElem? (i := 8) rfl)) rfl
set_option maxRecDepth 100000 in
theorem m_1498 : (.code yX12_why cX12_why 7 (some .int) : Cond) ∈ jw := jin (jt_5 _ (List.mem_of_getElem? (i := 9) rfl)) rfl
set_option maxRecDepth 100000 in
theorem m_1499 : (.methodLink RL 88 yX13_why : Cond) ∈ jw := jin (jt_9 _ (List.mem_of_getElem? (i := 117) rfl)) rfl
set_option maxRecDepth 100000 in
theorem m_1500 : (.methodLink RL 89 yX12_hand : Cond) ∈ jw := jin (jt_5 _ (List.mem_of_getElem? (i := 15) rfl)) rfl
set_option maxRecDepth 100000 in
theorem m_1501 : (.instanceMethod yX12_hand : Cond) ∈ jw := jin (jt_5 _ (List.mem_of_getElem? (i := 16) rfl)) rfl
set_option maxRecDepth 100000 in
theorem m_1502 : (.selects RX12 yX12_hand yX12_hand : Cond) ∈ jw := jin (jt_5 _ (List.mem_of_getElem? (i := 17) rfl)) rfl
set_option maxRecDepth 100000 in
theorem m_1503 : (.code yX12_hand cX12_hand 5 (some .int) : Cond) ∈ jw := jin (jt_5 _ (List.mem_of_getElem? (i := 18) rfl)) rfl
set_option maxRecDepth 100000 in
theorem m_1504 : (.methodLink RL 92 yX13_hand : Cond) ∈ jw := jin (jt_9 _ (List.mem_of_getElem? (i := 121) rfl)) rfl
set_option maxRecDepth 100000 in
theorem m_1505 : (.methodLink RL 93 yX12_enemies : Cond) ∈ jw := jin (jt_5 _ (List.mem_of_getElem? (i := 48) rfl)) rfl
set_option maxRecDepth 100000 in
theorem m_1506 : (.instanceMethod yX12_enemies : Cond) ∈ jw := jin (jt_5 _ (List.mem_of_getElem? (i := 49) rfl)) rfl
set_option maxRecDepth 100000 in
theorem m_1507 : (.selects RX12 yX12_enemies yX12_enemies : Cond) ∈ jw := jin (jt_5 _ (List.mem_of_getElem? (i := 50) rfl)) rfl
set_option maxRecDepth 100000 in
theorem m_1508 : (.code yX12_enemies cX12_enemies 5 (some .boolean) : Cond) ∈ jw := jin (jt_5 _ (List.mem_of_getElem? (i := 51) rfl)) rfl
set_option maxRecDepth 100000 in
theorem m_1509 : (.methodLink RL 96 yX13_enemies : Cond) ∈ jw := jin (jt_9 _ (List.mem_of_getElem? (i := 126) rfl)) rfl
set_option maxRecDepth 100000 in
theorem m_1510 : (.methodLink RL 97 yX12_give : Cond) ∈ jw := jin (jt_5 _ (List.mem_of_getElem? (i := 56) rfl)) rfl
set_option maxRecDepth 100000 in
theorem m_1511 : (.instanceMethod yX12_give : Cond) ∈ jw := jin (jt_5 _ (List.mem_of_getElem? (i := 57) rfl)) rfl
set_option maxRecDepth 100000 in
theorem m_1512 : (.selects RX12 yX12_give yX12_give : Cond) ∈ jw := jin (jt_5 _ (List.mem_of_getElem? (i := 58) rfl)) rfl
set_option maxRecDepth 100000 in
theorem m_1513 : (.code yX12_give cX12_give 4 (some .boolean) : Cond) ∈ jw := jin (jt_5 _ (List.mem_of_getElem? (i := 59) rfl)) rfl
set_option maxRecDepth 100000 in
theorem m_1514 : (.methodLink RL 100 yX13_give : Cond) ∈ jw := jin (jt_9 _ (List.mem_of_getElem? (i := 134) rfl)) rfl
set_option maxRecDepth 100000 in
theorem m_1515 : (.methodLink RL 101 yX12_line : Cond) ∈ jw := jin (jt_5 _ (List.mem_of_getElem? (i := 107) rfl)) rfl
set_option maxRecDepth 100000 in
theorem m_1516 : (.instanceMethod yX12_line : Cond) ∈ jw := jin (jt_5 _ (List.mem_of_getElem? (i := 108) rfl)) rfl
set_option maxRecDepth 100000 in
theorem m_1517 : (.selects RX12 yX12_line yX12_line : Cond) ∈ jw := jin (jt_5 _ (List.mem_of_getElem? (i := 109) rfl)) rfl
set_option maxRecDepth 100000 in
theorem m_1518 : (.code yX12_line cX12_line 7 (some .int) : Cond) ∈ jw := jin (jt_5 _ (List.mem_of_getElem? (i := 110) rfl)) rfl
set_option maxRecDepth 100000 in
theorem m_1519 : (.methodLink RL 104 yX13_line : Cond) ∈ jw := jin (jt_9 _ (List.mem_of_getElem? (i := 166) rfl)) rfl
set_option maxRecDepth 100000 in
theorem m_1520 : (.methodLink RL 105 yX12_die : Cond) ∈ jw := jin (jt_5 _ (List.mem_of_getElem? (i := 173) rfl)) rfl
set_option maxRecDepth 100000 in
theorem m_1521 : (.instanceMethod yX12_die : Cond) ∈ jw := jin (jt_5 _ (List.mem_of_getElem? (i := 174) rfl)) rfl
set_option maxRecDepth 100000 in
theorem m_1522 : (.selects RX12 yX12_die yX12_die : Cond) ∈ jw := jin (jt_5 _ (List.mem_of_getElem? (i := 175) rfl)) rfl
set_option maxRecDepth 100000 in
theorem m_1523 : (.code yX12_die cX12_die 3 (some .int) : Cond) ∈ jw := jin (jt_5 _ (List.mem_of_getElem? (i := 176) rfl)) rfl
set_option maxRecDepth 100000 in
theorem m_1524 : (.methodLink RL 108 yX13_die : Cond) ∈ jw := jin (jt_9 _ (List.mem_of_getElem? (i := 178) rfl)) rfl
set_option maxRecDepth 100000 in
theorem m_1525 : (.methodLink RL 109 yX12_takers : Cond) ∈ jw := jin (jt_5 _ (List.mem_of_getElem? (i := 177) rfl)) rfl
set_option maxRecDepth 100000 in
theorem m_1526 : (.instanceMethod yX12_takers : Cond) ∈ jw := jin (jt_5 _ (List.mem_of_getElem? (i := 178) rfl)) rfl
set_option maxRecDepth 100000 in
theorem m_1527 : (.selects RX12 yX12_takers yX12_takers : Cond) ∈ jw := jin (jt_5 _ (List.mem_of_getElem? (i := 179) rfl)) rfl
set_option maxRecDepth 100000 in
theorem m_1528 : (.code yX12_takers cX12_takers 5 (some .int) : Cond) ∈ jw := jin (jt_5 _ (List.mem_of_getElem? (i := 180) rfl)) rfl
set_option maxRecDepth 100000 in
theorem m_1529 : (.methodLink RL 112 yX13_takers : Cond) ∈ jw := jin (jt_9 _ (List.mem_of_getElem? (i := 186) rfl)) rfl
set_option maxRecDepth 100000 in
theorem m_1530 : (.methodLink RL 113 yX12_tell : Cond) ∈ jw := jin (jt_5 _ (List.mem_of_getElem? (i := 185) rfl)) rfl
set_option maxRecDepth 100000 in
theorem m_1531 : (.instanceMethod yX12_tell : Cond) ∈ jw := jin (jt_5 _ (List.mem_of_getElem? (i := 186) rfl)) rfl
set_option maxRecDepth 100000 in
theorem m_1532 : (.selects RX12 yX12_tell yX12_tell : Cond) ∈ jw := jin (jt_5 _ (List.mem_of_getElem? (i := 187) rfl)) rfl
set_option maxRecDepth 100000 in
theorem m_1533 : (.code yX12_tell cX12_tell 5 (some .boolean) : Cond) ∈ jw := jin (jt_5 _ (List.mem_of_getElem? (i := 188) rfl)) rfl
set_option maxRecDepth 100000 in
theorem m_1534 : (.methodLink RL 117 yX13_tell : Cond) ∈ jw := jin (jt_9 _ (List.mem_of_getElem? (i := 190) rfl)) rfl
set_option maxRecDepth 100000 in
theorem m_1535 : (.methodLink RL 118 yX12_known : Cond) ∈ jw := jin (jt_5 _ (List.mem_of_getElem? (i := 193) rfl)) rfl
set_option maxRecDepth 100000 in
theorem m_1536 : (.instanceMethod yX12_known : Cond) ∈ jw := jin (jt_5 _ (List.mem_of_getElem? (i := 194) rfl)) rfl
set_option maxRecDepth 100000 in
theorem m_1537 : (.selects RX12 yX12_known yX12_known : Cond) ∈ jw := jin (jt_5 _ (List.mem_of_getElem? (i := 195) rfl)) rfl
set_option maxRecDepth 100000 in
theorem m_1538 : (.code yX12_known cX12_known 4 (some .int) : Cond) ∈ jw := jin (jt_5 _ (List.mem_of_getElem? (i := 196) rfl)) rfl
set_option maxRecDepth 100000 in
theorem m_1539 : (.methodLink RL 121 yX13_known : Cond) ∈ jw := jin (jt_9 _ (List.mem_of_getElem? (i := 194) rfl)) rfl
set_option maxRecDepth 100000 in
theorem m_1540 : (.methodLink RL 122 yX12_stale : Cond) ∈ jw := jin (jt_5 _ (List.mem_of_getElem? (i := 201) rfl)) rfl
set_option maxRecDepth 100000 in
theorem m_1541 : (.instanceMethod yX12_stale : Cond) ∈ jw := jin (jt_5 _ (List.mem_of_getElem? (i := 202) rfl)) rfl
set_option maxRecDepth 100000 in
theorem m_1542 : (.selects RX12 yX12_stale yX12_stale : Cond) ∈ jw := jin (jt_5 _ (List.mem_of_getElem? (i := 203) rfl)) rfl
set_option maxRecDepth 100000 in
theorem m_1543 : (.code yX12_stale cX12_stale 4 (some .boolean) : Cond) ∈ jw := jin (jt_5 _ (List.mem_of_getElem? (i := 204) rfl)) rfl
set_option maxRecDepth 100000 in
theorem m_1544 : (.methodLink RL 125 yX13_stale : Cond) ∈ jw := jin (jt_9 _ (List.mem_of_getElem? (i := 198) rfl)) rfl
set_option maxRecDepth 100000 in
theorem m_1545 : (.methodLink RL 126 yX12_stales : Cond) ∈ jw := jin (jt_5 _ (List.mem_of_getElem? (i := 213) rfl)) rfl
set_option maxRecDepth 100000 in
theorem m_1546 : (.instanceMethod yX12_stales : Cond) ∈ jw := jin (jt_5 _ (List.mem_of_getElem? (i := 214) rfl)) rfl
set_option maxRecDepth 100000 in
theorem m_1547 : (.selects RX12 yX12_stales yX12_stales : Cond) ∈ jw := jin (jt_5 _ (List.mem_of_getElem? (i := 215) rfl)) rfl
set_option maxRecDepth 100000 in
theorem m_1548 : (.code yX12_stales cX12_stales 5 (some .int) : Cond) ∈ jw := jin (jt_5 _ (List.mem_of_getElem? (i := 216) rfl)) rfl
set_option maxRecDepth 100000 in
theorem m_1549 : (.methodLink RL 129 yX13_stales : Cond) ∈ jw := jin (jt_9 _ (List.mem_of_getElem? (i := 214) rfl)) rfl
set_option maxRecDepth 100000 in
theorem m_1550 : (.methodLink RL 130 yX12_mend : Cond) ∈ jw := jin (jt_5 _ (List.mem_of_getElem? (i := 217) rfl)) rfl
set_option maxRecDepth 100000 in
theorem m_1551 : (.instanceMethod yX12_mend : Cond) ∈ jw := jin (jt_5 _ (List.mem_of_getElem? (i := 218) rfl)) rfl
set_option maxRecDepth 100000 in
theorem m_1552 : (.selects RX12 yX12_mend yX12_mend : Cond) ∈ jw := jin (jt_5 _ (List.mem_of_getElem? (i := 219) rfl)) rfl
set_option maxRecDepth 100000 in
theorem m_1553 : (.code yX12_mend cX12_mend 3 (some .int) : Cond) ∈ jw := jin (jt_5 _ (List.mem_of_getElem? (i := 220) rfl)) rfl
set_option maxRecDepth 100000 in
theorem m_1554 : (.methodLink RL 133 yX13_mend : Cond) ∈ jw := jin (jt_9 _ (List.mem_of_getElem? (i := 218) rfl)) rfl
set_option maxRecDepth 100000 in
theorem m_1555 : (.methodLink RL 134 yX12_erratum : Cond) ∈ jw := jin (jt_5 _ (List.mem_of_getElem? (i := 225) rfl)) rfl
set_option maxRecDepth 100000 in
theorem m_1556 : (.instanceMethod yX12_erratum : Cond) ∈ jw := jin (jt_5 _ (List.mem_of_getElem? (i := 226) rfl)) rfl
set_option maxRecDepth 100000 in
theorem m_1557 : (.selects RX12 yX12_erratum yX12_erratum : Cond) ∈ jw := jin (jt_5 _ (List.mem_of_getElem? (i := 227) rfl)) rfl
set_option maxRecDepth 100000 in
theorem m_1558 : (.code yX12_erratum cX12_erratum 6 (some .int) : Cond) ∈ jw := jin (jt_5 _ (List.mem_of_getElem? (i := 228) rfl)) rfl
set_option maxRecDepth 100000 in
theorem m_1559 : (.methodLink RL 137 yX13_erratum : Cond) ∈ jw := jin (jt_9 _ (List.mem_of_getElem? (i := 226) rfl)) rfl
set_option maxRecDepth 100000 in
theorem m_1560 : (.methodLink RL 138 yX12_misses : Cond) ∈ jw := jin (jt_5 _ (List.mem_of_getElem? (i := 233) rfl)) rfl
set_option maxRecDepth 100000 in
theorem m_1561 : (.instanceMethod yX12_misses : Cond) ∈ jw := jin (jt_5 _ (List.mem_of_getElem? (i := 234) rfl)) rfl
set_option maxRecDepth 100000 in
theorem m_1562 : (.selects RX12 yX12_misses yX12_misses : Cond) ∈ jw := jin (jt_5 _ (List.mem_of_getElem? (i := 235) rfl)) rfl
set_option maxRecDepth 100000 in
theorem m_1563 : (.code yX12_misses cX12_misses 2 (some .int) : Cond) ∈ jw := jin (jt_5 _ (List.mem_of_getElem? (i := 236) rfl)) rfl
set_option maxRecDepth 100000 in
theorem m_1564 : (.methodLink RL 141 yX13_misses : Cond) ∈ jw := jin (jt_9 _ (List.mem_of_getElem? (i := 230) rfl)) rfl
set_option maxRecDepth 100000 in
theorem m_1565 : (.methodLink RL 142 yX12_told : Cond) ∈ jw := jin (jt_6 _ (List.mem_of_getElem? (i := 1) rfl)) rfl
set_option maxRecDepth 100000 in
theorem m_1566 : (.instanceMethod yX12_told : Cond) ∈ jw := jin (jt_6 _ (List.mem_of_getElem? (i := 2) rfl)) rfl
set_option maxRecDepth 100000 in
theorem m_1567 : (.selects RX12 yX12_told yX12_told : Cond) ∈ jw := jin (jt_6 _ (List.mem_of_getElem? (i := 3) rfl)) rfl
set_option maxRecDepth 100000 in
theorem m_1568 : (.code yX12_told cX12_told 4 (some .int) : Cond) ∈ jw := jin (jt_6 _ (List.mem_of_getElem? (i := 4) rfl)) rfl
set_option maxRecDepth 100000 in
theorem m_1569 : (.methodLink RL 145 yX13_told : Cond) ∈ jw := jin (jt_9 _ (List.mem_of_getElem? (i := 234) rfl)) rfl
set_option maxRecDepth 100000 in
theorem m_1570 : (.methodLink RL 146 yX12_set : Cond) ∈ jw := jin (jt_6 _ (List.mem_of_getElem? (i := 9) rfl)) rfl
set_option maxRecDepth 100000 in
theorem m_1571 : (.instanceMethod yX12_set : Cond) ∈ jw := jin (jt_6 _ (List.mem_of_getElem? (i := 10) rfl)) rfl
set_option maxRecDepth 100000 in
theorem m_1572 : (.selects RX12 yX12_set yX12_set : Cond) ∈ jw := jin (jt_6 _ (List.mem_of_getElem? (i := 11) rfl)) rfl
set_option maxRecDepth 100000 in
theorem m_1573 : (.code yX12_set cX12_set 3 (some .int) : Cond) ∈ jw := jin (jt_6 _ (List.mem_of_getElem? (i := 12) rfl)) rfl
set_option maxRecDepth 100000 in
theorem m_1574 : (.methodLink RL 149 yX13_set : Cond) ∈ jw := jin (jt_9 _ (List.mem_of_getElem? (i := 238) rfl)) rfl
set_option maxRecDepth 100000 in
theorem m_1575 : (.methodLink RL 150 yX12_page : Cond) ∈ jw := jin (jt_6 _ (List.mem_of_getElem? (i := 42) rfl)) rfl
set_option maxRecDepth 100000 in
theorem m_1576 : (.instanceMethod yX12_page : Cond) ∈ jw := jin (jt_6 _ (List.mem_of_getElem? (i := 43) rfl)) rfl
set_option maxRecDepth 100000 in
theorem m_1577 : (.selects RX12 yX12_page yX12_page : Cond) ∈ jw := jin (jt_6 _ (List.mem_of_getElem? (i := 44) rfl)) rfl
set_option maxRecDepth 100000 in
theorem m_1578 : (.code yX12_page cX12_page 3 (some .int) : Cond) ∈ jw := jin (jt_6 _ (List.mem_of_getElem? (i := 45) rfl)) rfl
set_option maxRecDepth 100000 in
theorem m_1579 : (.methodLink RL 153 yX13_page : Cond) ∈ jw := jin (jt_10 _ (List.mem_of_getElem? (i := 6) rfl)) rfl
set_option maxRecDepth 100000 in
theorem m_1580 : (.methodLink RL 154 yX12_promise : Cond) ∈ jw := jin (jt_6 _ (List.mem_of_getElem? (i := 46) rfl)) rfl
set_option maxRecDepth 100000 in
theorem m_1581 : (.instanceMethod yX12_promise : Cond) ∈ jw := jin (jt_6 _ (List.mem_of_getElem? (i := 47) rfl)) rfl
set_option maxRecDepth 100000 in
theorem m_1582 : (.selects RX12 yX12_promise yX12_promise : Cond) ∈ jw := jin (jt_6 _ (List.mem_of_getElem? (i := 48) rfl)) rfl
set_option maxRecDepth 100000 in
theorem m_1583 : (.code yX12_promise cX12_promise 4 (some .int) : Cond) ∈ jw := jin (jt_6 _ (List.mem_of_getElem? (i := 49) rfl)) rfl
set_option maxRecDepth 100000 in
theorem m_1584 : (.methodLink RL 157 yX13_promise : Cond) ∈ jw := jin (jt_10 _ (List.mem_of_getElem? (i := 18) rfl)) rfl
set_option maxRecDepth 100000 in
theorem m_1585 : (.methodLink RL 158 yX12_ends : Cond) ∈ jw := jin (jt_6 _ (List.mem_of_getElem? (i := 62) rfl)) rfl
set_option maxRecDepth 100000 in
theorem m_1586 : (.instanceMethod yX12_ends : Cond) ∈ jw := jin (jt_6 _ (List.mem_of_getElem? (i := 63) rfl)) rfl
set_option maxRecDepth 100000 in
theorem m_1587 : (.selects RX12 yX12_ends yX12_ends : Cond) ∈ jw := jin (jt_6 _ (List.mem_of_getElem? (i := 64) rfl)) rfl
set_option maxRecDepth 100000 in
theorem m_1588 : (.code yX12_ends cX12_ends 4 (some .int) : Cond) ∈ jw := jin (jt_6 _ (List.mem_of_getElem? (i := 65) rfl)) rfl
set_option maxRecDepth 100000 in
theorem m_1589 : (.methodLink RL 161 yX13_ends : Cond) ∈ jw := jin (jt_10 _ (List.mem_of_getElem? (i := 10) rfl)) rfl
set_option maxRecDepth 100000 in
theorem m_1590 : (.methodLink RL 162 yX12_promised : Cond) ∈ jw := jin (jt_6 _ (List.mem_of_getElem? (i := 66) rfl)) rfl
set_option maxRecDepth 100000 in
theorem m_1591 : (.instanceMethod yX12_promised : Cond) ∈ jw := jin (jt_6 _ (List.mem_of_getElem? (i := 67) rfl)) rfl
set_option maxRecDepth 100000 in
theorem m_1592 : (.selects RX12 yX12_promised yX12_promised : Cond) ∈ jw := jin (jt_6 _ (List.mem_of_getElem? (i := 68) rfl)) rfl
set_option maxRecDepth 100000 in
theorem m_1593 : (.code yX12_promised cX12_promised 6 (some .int) : Cond) ∈ jw := jin (jt_6 _ (List.mem_of_getElem? (i := 69) rfl)) rfl
set_option maxRecDepth 100000 in
theorem m_1594 : (.methodLink RL 165 yX13_promised : Cond) ∈ jw := jin (jt_10 _ (List.mem_of_getElem? (i := 26) rfl)) rfl
set_option maxRecDepth 100000 in
theorem m_1595 : (.methodLink RL 166 yX12_subscribe : Cond) ∈ jw := jin (jt_6 _ (List.mem_of_getElem? (i := 70) rfl)) rfl
set_option maxRecDepth 100000 in
theorem m_1596 : (.instanceMethod yX12_subscribe : Cond) ∈ jw := jin (jt_6 _ (List.mem_of_getElem? (i := 71) rfl)) rfl
set_option maxRecDepth 100000 in
theorem m_1597 : (.selects RX12 yX12_subscribe yX12_subscribe : Cond) ∈ jw := jin (jt_6 _ (List.mem_of_getElem? (i := 72) rfl)) rfl
set_option maxRecDepth 100000 in
theorem m_1598 : (.code yX12_subscribe cX12_subscribe 4 (some .boolean) : Cond) ∈ jw := jin (jt_6 _ (List.mem_of_getElem? (i := 73) rfl)) rfl
set_option maxRecDepth 100000 in
theorem m_1599 : (.methodLink RL 169 yX13_subscribe : Cond) ∈ jw := jin (jt_10 _ (List.mem_of_getElem? (i := 30) rfl)) rfl
set_option maxRecDepth 100000 in
theorem m_1600 : (.methodLink RL 170 yX12_owed : Cond) ∈ jw := jin (jt_6 _ (List.mem_of_getElem? (i := 78) rfl)) rfl
set_option maxRecDepth 100000 in
theorem m_1601 : (.instanceMethod yX12_owed : Cond) ∈ jw := jin (jt_6 _ (List.mem_of_getElem? (i := 79) rfl)) rfl
set_option maxRecDepth 100000 in
theorem m_1602 : (.selects RX12 yX12_owed yX12_owed : Cond) ∈ jw := jin (jt_6 _ (List.mem_of_getElem? (i := 80) rfl)) rfl
set_option maxRecDepth 100000 in
theorem m_1603 : (.code yX12_owed cX12_owed 5 (some .int) : Cond) ∈ jw := jin (jt_6 _ (List.mem_of_getElem? (i := 81) rfl)) rfl
set_option maxRecDepth 100000 in
theorem m_1604 : (.methodLink RL 173 yX13_owed : Cond) ∈ jw := jin (jt_10 _ (List.mem_of_getElem? (i := 34) rfl)) rfl
set_option maxRecDepth 100000 in
theorem m_1605 : (.methodLink RL 174 yX12_lengths : Cond) ∈ jw := jin (jt_6 _ (List.mem_of_getElem? (i := 91) rfl)) rfl
set_option maxRecDepth 100000 in
theorem m_1606 : (.instanceMethod yX12_lengths : Cond) ∈ jw := jin (jt_6 _ (List.mem_of_getElem? (i := 92) rfl)) rfl
set_option maxRecDepth 100000 in
theorem m_1607 : (.selects RX12 yX12_lengths yX12_lengths : Cond) ∈ jw := jin (jt_6 _ (List.mem_of_getElem? (i := 93) rfl)) rfl
set_option maxRecDepth 100000 in
theorem m_1608 : (.code yX12_lengths cX12_lengths 3 (some .int) : Cond) ∈ jw := jin (jt_6 _ (List.mem_of_getElem? (i := 94) rfl)) rfl
set_option maxRecDepth 100000 in
theorem m_1609 : (.methodLink RL 177 yX13_lengths : Cond) ∈ jw := jin (jt_10 _ (List.mem_of_getElem? (i := 38) rfl)) rfl
set_option maxRecDepth 100000 in
theorem m_1610 : (.methodLink RL 178 yX12_length : Cond) ∈ jw := jin (jt_6 _ (List.mem_of_getElem? (i := 136) rfl)) rfl
set_option maxRecDepth 100000 in
theorem m_1611 : (.instanceMethod yX12_length : Cond) ∈ jw := jin (jt_6 _ (List.mem_of_getElem? (i := 137) rfl)) rfl
set_option maxRecDepth 100000 in
theorem m_1612 : (.selects RX12 yX12_length yX12_length : Cond) ∈ jw := jin (jt_6 _ (List.mem_of_getElem? (i := 138) rfl)) rfl
set_option maxRecDepth 100000 in
theorem m_1613 : (.code yX12_length cX12_length 4 (some .int) : Cond) ∈ jw := jin (jt_6 _ (List.mem_of_getElem? (i := 139) rfl)) rfl
set_option maxRecDepth 100000 in
theorem m_1614 : (.methodLink RL 181 yX13_length : Cond) ∈ jw := jin (jt_10 _ (List.mem_of_getElem? (i := 49) rfl)) rfl
set_option maxRecDepth 100000 in
theorem m_1615 : (.methodLink RL 182 yX12_giving : Cond) ∈ jw := jin (jt_6 _ (List.mem_of_getElem? (i := 144) rfl)) rfl
set_option maxRecDepth 100000 in
theorem m_1616 : (.instanceMethod yX12_giving : Cond) ∈ jw := jin (jt_6 _ (List.mem_of_getElem? (i := 145) rfl)) rfl
set_option maxRecDepth 100000 in
theorem m_1617 : (.selects RX12 yX12_giving yX12_giving : Cond) ∈ jw := jin (jt_6 _ (List.mem_of_getElem? (i := 146) rfl)) rfl
set_option maxRecDepth 100000 in
theorem m_1618 : (.code yX12_giving cX12_giving 4 (some .int) : Cond) ∈ jw := jin (jt_6 _ (List.mem_of_getElem? (i := 147) rfl)) rfl
set_option maxRecDepth 100000 in
theorem m_1619 : (.methodLink RL 185 yX13_giving : Cond) ∈ jw := jin (jt_10 _ (List.mem_of_getElem? (i := 53) rfl)) rfl
set_option maxRecDepth 100000 in
theorem m_1620 : (.methodLink RL 186 yX12_given : Cond) ∈ jw := jin (jt_6 _ (List.mem_of_getElem? (i := 214) rfl)) rfl
set_option maxRecDepth 100000 in
theorem m_1621 : (.instanceMethod yX12_given : Cond) ∈ jw := jin (jt_6 _ (List.mem_of_getElem? (i := 215) rfl)) rfl
set_option maxRecDepth 100000 in
theorem m_1622 : (.selects RX12 yX12_given yX12_given : Cond) ∈ jw := jin (jt_6 _ (List.mem_of_getElem? (i := 216) rfl)) rfl
set_option maxRecDepth 100000 in
theorem m_1623 : (.code yX12_given cX12_given 6 (some .int) : Cond) ∈ jw := jin (jt_6 _ (List.mem_of_getElem? (i := 217) rfl)) rfl
set_option maxRecDepth 100000 in
theorem m_1624 : (.methodLink RL 189 yX13_given : Cond) ∈ jw := jin (jt_10 _ (List.mem_of_getElem? (i := 66) rfl)) rfl
set_option maxRecDepth 100000 in
theorem m_1625 : (.methodLink RL 190 yX12_index : Cond) ∈ jw := jin (jt_6 _ (List.mem_of_getElem? (i := 223) rfl)) rfl
set_option maxRecDepth 100000 in
theorem m_1626 : (.instanceMethod yX12_index : Cond) ∈ jw := jin (jt_6 _ (List.mem_of_getElem? (i := 224) rfl)) rfl
set_option maxRecDepth 100000 in
theorem m_1627 : (.selects RX12 yX12_index yX12_index : Cond) ∈ jw := jin (jt_6 _ (List.mem_of_getElem? (i := 225) rfl)) rfl
set_option maxRecDepth 100000 in
theorem m_1628 : (.code yX12_index cX12_index 9 (some .int) : Cond) ∈ jw := jin (jt_6 _ (List.mem_of_getElem? (i := 226) rfl)) rfl
set_option maxRecDepth 100000 in
theorem m_1629 : (.methodLink RL 193 yX13_index : Cond) ∈ jw := jin (jt_10 _ (List.mem_of_getElem? (i := 70) rfl)) rfl
set_option maxRecDepth 100000 in
theorem m_1630 : (.methodLink RL 194 yX12_steal : Cond) ∈ jw := jin (jt_6 _ (List.mem_of_getElem? (i := 231) rfl)) rfl
set_option maxRecDepth 100000 in
theorem m_1631 : (.instanceMethod yX12_steal : Cond) ∈ jw := jin (jt_6 _ (List.mem_of_getElem? (i := 232) rfl)) rfl
set_option maxRecDepth 100000 in
theorem m_1632 : (.selects RX12 yX12_steal yX12_steal : Cond) ∈ jw := jin (jt_6 _ (List.mem_of_getElem? (i := 233) rfl)) rfl
set_option maxRecDepth 100000 in
theorem m_1633 : (.code yX12_steal cX12_steal 2 (some .int) : Cond) ∈ jw := jin (jt_6 _ (List.mem_of_getElem? (i := 234) rfl)) rfl
set_option maxRecDepth 100000 in
theorem m_1634 : (.methodLink RL 197 yX13_steal : Cond) ∈ jw := jin (jt_10 _ (List.mem_of_getElem? (i := 74) rfl)) rfl
set_option maxRecDepth 100000 in
theorem m_1635 : (.methodLink RL 198 yX12_forget : Cond) ∈ jw := jin (jt_6 _ (List.mem_of_getElem? (i := 239) rfl)) rfl
set_option maxRecDepth 100000 in
theorem m_1636 : (.instanceMethod yX12_forget : Cond) ∈ jw := jin (jt_7 _ (List.mem_of_getElem? (i := 0) rfl)) rfl
set_option maxRecDepth 100000 in
theorem m_1637 : (.selects RX12 yX12_forget yX12_forget : Cond) ∈ jw := jin (jt_7 _ (List.mem_of_getElem? (i := 1) rfl)) rfl
set_option maxRecDepth 100000 in
theorem m_1638 : (.code yX12_forget cX12_forget 2 (some .int) : Cond) ∈ jw := jin (jt_7 _ (List.mem_of_getElem? (i := 2) rfl)) rfl
set_option maxRecDepth 100000 in
theorem m_1639 : (.methodLink RL 201 yX13_forget : Cond) ∈ jw := jin (jt_10 _ (List.mem_of_getElem? (i := 78) rfl)) rfl
set_option maxRecDepth 100000 in
theorem m_1640 : (.methodLink RL 202 yX12_thief : Cond) ∈ jw := jin (jt_7 _ (List.mem_of_getElem? (i := 3) rfl)) rfl
set_option maxRecDepth 100000 in
theorem m_1641 : (.instanceMethod yX12_thief : Cond) ∈ jw := jin (jt_7 _ (List.mem_of_getElem? (i := 4) rfl)) rfl
set_option maxRecDepth 100000 in
theorem m_1642 : (.selects RX12 yX12_thief yX12_thief : Cond) ∈ jw := jin (jt_7 _ (List.mem_of_getElem? (i := 5) rfl)) rfl
set_option maxRecDepth 100000 in
theorem m_1643 : (.code yX12_thief cX12_thief 6 (some .int) : Cond) ∈ jw := jin (jt_7 _ (List.mem_of_getElem? (i := 6) rfl)) rfl
set_option maxRecDepth 100000 in
theorem m_1644 : (.methodLink RL 205 yX13_thief : Cond) ∈ jw := jin (jt_10 _ (List.mem_of_getElem? (i := 82) rfl)) rfl
set_option maxRecDepth 100000 in
theorem m_1645 : (.methodLink RL 206 yX12_is : Cond) ∈ jw := jin (jt_7 _ (List.mem_of_getElem? (i := 29) rfl)) rfl
set_option maxRecDepth 100000 in
theorem m_1646 : (.instanceMethod yX12_is : Cond) ∈ jw := jin (jt_7 _ (List.mem_of_getElem? (i := 30) rfl)) rfl
set_option maxRecDepth 100000 in
theorem m_1647 : (.selects RX12 yX12_is yX12_is : Cond) ∈ jw := jin (jt_7 _ (List.mem_of_getElem? (i := 31) rfl)) rfl
set_option maxRecDepth 100000 in
theorem m_1648 : (.code yX12_is cX12_is 4 (some .int) : Cond) ∈ jw := jin (jt_7 _ (List.mem_of_getElem? (i := 32) rfl)) rfl
set_option maxRecDepth 100000 in
theorem m_1649 : (.methodLink RL 209 yX13_is : Cond) ∈ jw := jin (jt_10 _ (List.mem_of_getElem? (i := 94) rfl)) rfl
set_option maxRecDepth 100000 in
theorem m_1650 : (.methodLink RL 210 yX12_count : Cond) ∈ jw := jin (jt_7 _ (List.mem_of_getElem? (i := 37) rfl)) rfl
set_option maxRecDepth 100000 in
theorem m_1651 : (.instanceMethod yX12_count : Cond) ∈ jw := jin (jt_7 _ (List.mem_of_getElem? (i := 38) rfl)) rfl
set_option maxRecDepth 100000 in
theorem m_1652 : (.selects RX12 yX12_count yX12_count : Cond) ∈ jw := jin (jt_7 _ (List.mem_of_getElem? (i := 39) rfl)) rfl
set_option maxRecDepth 100000 in
theorem m_1653 : (.code yX12_count cX12_count 2 (some .int) : Cond) ∈ jw := jin (jt_7 _ (List.mem_of_getElem? (i := 40) rfl)) rfl
set_option maxRecDepth 100000 in
theorem m_1654 : (.methodLink RL 213 yX13_count : Cond) ∈ jw := jin (jt_10 _ (List.mem_of_getElem? (i := 98) rfl)) rfl
set_option maxRecDepth 100000 in
theorem m_1655 : (.methodLink RX12 1 objectInit : Cond) ∈ jw := jin (jt_1 _ (List.mem_of_getElem? (i := 30) rfl)) rfl
set_option maxRecDepth 100000 in
theorem m_1656 : (.classLink RX12 7 RX7 : Cond) ∈ jw := jin (jt_1 _ (List.mem_of_getElem? (i := 33) rfl)) rfl
set_option maxRecDepth 100000 in
theorem m_1657 : (.instantiable RX7 15 : Cond) ∈ jw := jin (jt_1 _ (List.mem_of_getElem? (i := 34) rfl)) rfl
set_option maxRecDepth 100000 in
theorem m_1658 : (.methodLink RX7 3 objectInit : Cond) ∈ jw := jin (jt_1 _ (List.mem_of_getElem? (i := 38) rfl)) rfl
set_option maxRecDepth 100000 in
theorem m_1659 : (.code yX7_init cX7_init 1 none : Cond) ∈ jw := jin (jt_1 _ (List.mem_of_getElem? (i := 37) rfl)) rfl
set_option maxRecDepth 100000 in
theorem m_1660 : (.instanceMethod yX7_init : Cond) ∈ jw := jin (jt_1 _ (List.mem_of_getElem? (i := 36) rfl)) rfl
set_option maxRecDepth 100000 in
theorem m_1661 : (.classLink RX12 16 RX8 : Cond) ∈ jw := jin (jt_1 _ (List.mem_of_getElem? (i := 89) rfl)) rfl
set_option maxRecDepth 100000 in
theorem m_1662 : (.instantiable RX8 8 : Cond) ∈ jw := jin (jt_1 _ (List.mem_of_getElem? (i := 90) rfl)) rfl
set_option maxRecDepth 100000 in
theorem m_1663 : (.methodLink RX8 3 objectInit : Cond) ∈ jw := jin (jt_1 _ (List.mem_of_getElem? (i := 94) rfl)) rfl
set_option maxRecDepth 100000 in
theorem m_1664 : (.classLink RX8 11 RX9 : Cond) ∈ jw := jin (jt_1 _ (List.mem_of_getElem? (i := 95) rfl)) rfl
set_option maxRecDepth 100000 in
theorem m_1665 : (.code yX8_init cX8_init 1 none : Cond) ∈ jw := jin (jt_1 _ (List.mem_of_getElem? (i := 93) rfl)) rfl
set_option maxRecDepth 100000 in
theorem m_1666 : (.instanceMethod yX8_init : Cond) ∈ jw := jin (jt_1 _ (List.mem_of_getElem? (i := 92) rfl)) rfl
set_option maxRecDepth 100000 in
theorem m_1667 : (.classLink RX12 23 RX6 : Cond) ∈ jw := jin (jt_1 _ (List.mem_of_getElem? (i := 123) rfl)) rfl
set_option maxRecDepth 100000 in
theorem m_1668 : (.instantiable RX6 6 : Cond) ∈ jw := jin (jt_1 _ (List.mem_of_getElem? (i := 124) rfl)) rfl
set_option maxRecDepth 100000 in
theorem m_1669 : (.methodLink RX6 1 objectInit : Cond) ∈ jw := jin (jt_1 _ (List.mem_of_getElem? (i := 128) rfl)) rfl
set_option maxRecDepth 100000 in
theorem m_1670 : (.code yX6_init cX6_init 2 none : Cond) ∈ jw := jin (jt_1 _ (List.mem_of_getElem? (i := 127) rfl)) rfl
set_option maxRecDepth 100000 in
theorem m_1671 : (.methodLink RX12 25 yX6_init : Cond) ∈ jw := jin (jt_1 _ (List.mem_of_getElem? (i := 125) rfl)) rfl
set_option maxRecDepth 100000 in
theorem m_1672 : (.instanceMethod yX6_init : Cond) ∈ jw := jin (jt_1 _ (List.mem_of_getElem? (i := 126) rfl)) rfl
set_option maxRecDepth 100000 in
theorem m_1673 : (.classLink RX12 32 RX11 : Cond) ∈ jw := jin (jt_1 _ (List.mem_of_getElem? (i := 149) rfl)) rfl
set_option maxRecDepth 100000 in
theorem m_1674 : (.instantiable RX11 7 : Cond) ∈ jw := jin (jt_1 _ (List.mem_of_getElem? (i := 151) rfl)) rfl
set_option maxRecDepth 100000 in
theorem m_1675 : (.methodLink RX11 3 objectInit : Cond) ∈ jw := jin (jt_1 _ (List.mem_of_getElem? (i := 155) rfl)) rfl
set_option maxRecDepth 100000 in
theorem m_1676 : (.fieldLink RX11 9 "BookOfAll$Volume" "setDay" "I" : Cond) ∈ jw := jin (jt_1 _ (List.mem_of_getElem? (i := 161) rfl)) rfl
set_option maxRecDepth 100000 in
theorem m_1677 : (.fieldLink RX11 15 "BookOfAll$Volume" "order" "[I" : Cond) ∈ jw := jin (jt_1 _ (List.mem_of_getElem? (i := 163) rfl)) rfl
set_option maxRecDepth 100000 in
theorem m_1678 : (.methodLink RX11 22 Lib.Math.min.name : Cond) ∈ jw := jin (jt_1 _ (List.mem_of_getElem? (i := 156) rfl)) rfl
set_option maxRecDepth 100000 in
theorem m_1679 : (.fieldLink RX11 28 "BookOfAll$Volume" "lastLetter" "I" : Cond) ∈ jw := jin (jt_1 _ (List.mem_of_getElem? (i := 159) rfl)) rfl
set_option maxRecDepth 100000 in
theorem m_1680 : (.code yX11_init cX11_init 2 none : Cond) ∈ jw := jin (jt_1 _ (List.mem_of_getElem? (i := 154) rfl)) rfl
set_option maxRecDepth 100000 in
theorem m_1681 : (.methodLink RX12 38 yX11_init : Cond) ∈ jw := jin (jt_1 _ (List.mem_of_getElem? (i := 152) rfl)) rfl
set_option maxRecDepth 100000 in
theorem m_1682 : (.instanceMethod yX11_init : Cond) ∈ jw := jin (jt_1 _ (List.mem_of_getElem? (i := 153) rfl)) rfl
set_option maxRecDepth 100000 in
theorem m_1683 : (.classLink RX12 63 RX5 : Cond) ∈ jw := jin (jt_1 _ (List.mem_of_getElem? (i := 192) rfl)) rfl
set_option maxRecDepth 100000 in
theorem m_1684 : (.instantiable RX5 12 : Cond) ∈ jw := jin (jt_1 _ (List.mem_of_getElem? (i := 193) rfl)) rfl
set_option maxRecDepth 100000 in
theorem m_1685 : (.methodLink RX5 3 objectInit : Cond) ∈ jw := jin (jt_1 _ (List.mem_of_getElem? (i := 197) rfl)) rfl
set_option maxRecDepth 100000 in
theorem m_1686 : (.methodLink RX5 43 yJ7_fill_53178 : Cond) ∈ jw := jin (jt_1 _ (List.mem_of_getElem? (i := 198) rfl)) rfl
set_option maxRecDepth 100000 in
theorem m_1687 : (.code yX5_init cX5_init 1 none : Cond) ∈ jw := jin (jt_1 _ (List.mem_of_getElem? (i := 196) rfl)) rfl
set_option maxRecDepth 100000 in
theorem m_1688 : (.methodLink RX12 65 yX5_init : Cond) ∈ jw := jin (jt_1 _ (List.mem_of_getElem? (i := 194) rfl)) rfl
set_option maxRecDepth 100000 in
theorem m_1689 : (.instanceMethod yX5_init : Cond) ∈ jw := jin (jt_1 _ (List.mem_of_getElem? (i := 195) rfl)) rfl
set_option maxRecDepth 100000 in
theorem m_1690 : (.methodLink RX12 76 yJ7_fill_53178 : Cond) ∈ jw := jin (jt_2 _ (List.mem_of_getElem? (i := 0) rfl)) rfl
set_option maxRecDepth 100000 in
theorem m_1691 : (.classLink RX12 82 RX3 : Cond) ∈ jw := jin (jt_2 _ (List.mem_of_getElem? (i := 1) rfl)) rfl
set_option maxRecDepth 100000 in
theorem m_1692 : (.instantiable RX3 7 : Cond) ∈ jw := jin (jt_2 _ (List.mem_of_getElem? (i := 2) rfl)) rfl
set_option maxRecDepth 100000 in
theorem m_1693 : (.methodLink RX3 3 objectInit : Cond) ∈ jw := jin (jt_2 _ (List.mem_of_getElem? (i := 6) rfl)) rfl
set_option maxRecDepth 100000 in
theorem m_1694 : (.code yX3_init cX3_init 1 none : Cond) ∈ jw := jin (jt_2 _ (List.mem_of_getElem? (i := 5) rfl)) rfl
set_option maxRecDepth 100000 in
theorem m_1695 : (.instanceMethod yX3_init : Cond) ∈ jw := jin (jt_2 _ (List.mem_of_getElem? (i := 4) rfl)) rfl
set_option maxRecDepth 100000 in
theorem m_1696 : (.classLink RX12 89 RX1 : Cond) ∈ jw := jin (jt_2 _ (List.mem_of_getElem? (i := 30) rfl)) rfl
set_option maxRecDepth 100000 in
theorem m_1697 : (.instantiable RX1 10 : Cond) ∈ jw := jin (jt_2 _ (List.mem_of_getElem? (i := 31) rfl)) rfl
set_option maxRecDepth 100000 in
theorem m_1698 : (.methodLink RX1 5 objectInit : Cond) ∈ jw := jin (jt_2 _ (List.mem_of_getElem? (i := 35) rfl)) rfl
set_option maxRecDepth 100000 in
theorem m_1699 : (.code yX1_init cX1_init 1 none : Cond) ∈ jw := jin (jt_2 _ (List.mem_of_getElem? (i := 34) rfl)) rfl
set_option maxRecDepth 100000 in
theorem m_1700 : (.instanceMethod yX1_init : Cond) ∈ jw := jin (jt_2 _ (List.mem_of_getElem? (i := 33) rfl)) rfl
set_option maxRecDepth 100000 in
theorem m_1701 : (.classLink RX12 96 RX10 : Cond) ∈ jw := jin (jt_2 _ (List.mem_of_getElem? (i := 68) rfl)) rfl
set_option maxRecDepth 100000 in
theorem m_1702 : (.instantiable RX10 3 : Cond) ∈ jw := jin (jt_2 _ (List.mem_of_getElem? (i := 69) rfl)) rfl
set_option maxRecDepth 100000 in
theorem m_1703 : (.methodLink RX10 3 objectInit : Cond) ∈ jw := jin (jt_2 _ (List.mem_of_getElem? (i := 73) rfl)) rfl
set_option maxRecDepth 100000 in
theorem m_1704 : (.code yX10_init cX10_init 1 none : Cond) ∈ jw := jin (jt_2 _ (List.mem_of_getElem? (i := 72) rfl)) rfl
set_option maxRecDepth 100000 in
theorem m_1705 : (.instanceMethod yX10_init : Cond) ∈ jw := jin (jt_2 _ (List.mem_of_getElem? (i := 71) rfl)) rfl
set_option maxRecDepth 100000 in
theorem m_1706 : (.methodLink RX13 1 objectInit : Cond) ∈ jw := jin (jt_7 _ (List.mem_of_getElem? (i := 54) rfl)) rfl
set_option maxRecDepth 100000 in
theorem m_1707 : (.classLink RL 7 RX12 : Cond) ∈ jw := jin (jt_1 _ (List.mem_of_getElem? (i := 25) rfl)) rfl
set_option maxRecDepth 100000 in
theorem m_1708 : (.code yX12_init cX12_init 2 none : Cond) ∈ jw := jin (jt_1 _ (List.mem_of_getElem? (i := 29) rfl)) rfl
set_option maxRecDepth 100000 in
theorem m_1709 : (.methodLink RL 9 yX12_init : Cond) ∈ jw := jin (jt_1 _ (List.mem_of_getElem? (i := 27) rfl)) rfl
set_option maxRecDepth 100000 in
theorem m_1710 : (.instanceMethod yX12_init : Cond) ∈ jw := jin (jt_1 _ (List.mem_of_getElem? (i := 28) rfl)) rfl
set_option maxRecDepth 100000 in
theorem m_1711 : (.classLink RL 10 RX13 : Cond) ∈ jw := jin (jt_7 _ (List.mem_of_getElem? (i := 49) rfl)) rfl
set_option maxRecDepth 100000 in
theorem m_1712 : (.code yX13_init cX13_init 1 none : Cond) ∈ jw := jin (jt_7 _ (List.mem_of_getElem? (i := 53) rfl)) rfl
set_option maxRecDepth 100000 in
theorem m_1713 : (.methodLink RL 12 yX13_init : Cond) ∈ jw := jin (jt_7 _ (List.mem_of_getElem? (i := 51) rfl)) rfl
set_option maxRecDepth 100000 in
theorem m_1714 : (.instanceMethod yX13_init : Cond) ∈ jw := jin (jt_7 _ (List.mem_of_getElem? (i := 52) rfl)) rfl
