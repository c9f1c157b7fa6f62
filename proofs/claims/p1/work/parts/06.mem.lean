theorem jt_all : ∀ w ∈ tables_1, w ∈ lw_tbl := fun _ h => List.mem_append_right _ h
theorem jt_1 : ∀ w ∈ tables_1_1, w ∈ lw_tbl := fun w h => jt_all w (List.mem_append_left _ h)
theorem jt_2 : ∀ w ∈ tables_1_2, w ∈ lw_tbl := fun w h => jt_all w (List.mem_append_right _ (List.mem_append_left _ h))
theorem jt_3 : ∀ w ∈ tables_1_3, w ∈ lw_tbl := fun w h => jt_all w (List.mem_append_right _ (List.mem_append_right _ (List.mem_append_left _ h)))
theorem jt_4 : ∀ w ∈ tables_1_4, w ∈ lw_tbl := fun w h => jt_all w (List.mem_append_right _ (List.mem_append_right _ (List.mem_append_right _ (List.mem_append_left _ h))))
theorem jt_5 : ∀ w ∈ tables_1_5, w ∈ lw_tbl := fun w h => jt_all w (List.mem_append_right _ (List.mem_append_right _ (List.mem_append_right _ (List.mem_append_right _ (List.mem_append_left _ h)))))
theorem jt_6 : ∀ w ∈ tables_1_6, w ∈ lw_tbl := fun w h => jt_all w (List.mem_append_right _ (List.mem_append_right _ (List.mem_append_right _ (List.mem_append_right _ (List.mem_append_right _ (List.mem_append_left _ h))))))
theorem jt_7 : ∀ w ∈ tables_1_7, w ∈ lw_tbl := fun w h => jt_all w (List.mem_append_right _ (List.mem_append_right _ (List.mem_append_right _ (List.mem_append_right _ (List.mem_append_right _ (List.mem_append_right _ (List.mem_append_left _ h)))))))
theorem jt_8 : ∀ w ∈ tables_1_8, w ∈ lw_tbl := fun w h => jt_all w (List.mem_append_right _ (List.mem_append_right _ (List.mem_append_right _ (List.mem_append_right _ (List.mem_append_right _ (List.mem_append_right _ (List.mem_append_right _ (List.mem_append_left _ h))))))))
theorem jt_9 : ∀ w ∈ tables_1_9, w ∈ lw_tbl := fun w h => jt_all w (List.mem_append_right _ (List.mem_append_right _ (List.mem_append_right _ (List.mem_append_right _ (List.mem_append_right _ (List.mem_append_right _ (List.mem_append_right _ (List.mem_append_right _ (List.mem_append_left _ h)))))))))
theorem jt_10 : ∀ w ∈ tables_1_10, w ∈ lw_tbl := fun w h => jt_all w (List.mem_append_right _ (List.mem_append_right _ (List.mem_append_right _ (List.mem_append_right _ (List.mem_append_right _ (List.mem_append_right _ (List.mem_append_right _ (List.mem_append_right _ (List.mem_append_right _ (h))))))))))
theorem jt_p : ∀ w ∈ k2_sels lw_privs, w ∈ lw_tbl := fun _ h => List.mem_append_left _ h
set_option maxRecDepth 100000 in
theorem m_0 : (.arrayClass .byte : Cond) ∈ jw := jin (jt_1 _ (List.mem_of_getElem? (i := 86) rfl)) rfl
set_option maxRecDepth 100000 in
theorem m_1 : (.fieldLink RX13 9 "BookOfAllModel" "text" "[B" : Cond) ∈ jw := jin (jt_7 _ (List.mem_of_getElem? (i := 55) rfl)) rfl
set_option maxRecDepth 100000 in
theorem m_2 : (.arrayClass .int : Cond) ∈ jw := jin (jt_1 _ (List.mem_of_getElem? (i := 87) rfl)) rfl
set_option maxRecDepth 100000 in
theorem m_3 : (.fieldLink RX13 13 "BookOfAllModel" "toCome" "[I" : Cond) ∈ jw := jin (jt_7 _ (List.mem_of_getElem? (i := 61) rfl)) rfl
set_option maxRecDepth 100000 in
theorem m_4 : (.fieldLink RX13 17 "BookOfAllModel" "does" "[I" : Cond) ∈ jw := jin (jt_7 _ (List.mem_of_getElem? (i := 65) rfl)) rfl
set_option maxRecDepth 100000 in
theorem m_5 : (.fieldLink RX13 20 "BookOfAllModel" "doesWith" "[I" : Cond) ∈ jw := jin (jt_7 _ (List.mem_of_getElem? (i := 66) rfl)) rfl
set_option maxRecDepth 100000 in
theorem m_6 : (.fieldLink RX13 23 "BookOfAllModel" "slotBegin" "[I" : Cond) ∈ jw := jin (jt_7 _ (List.mem_of_getElem? (i := 68) rfl)) rfl
set_option maxRecDepth 100000 in
theorem m_7 : (.fieldLink RX13 26 "BookOfAllModel" "slotEnd" "[I" : Cond) ∈ jw := jin (jt_7 _ (List.mem_of_getElem? (i := 69) rfl)) rfl
set_option maxRecDepth 100000 in
theorem m_8 : (.fieldLink RX13 29 "BookOfAllModel" "skipAt" "[I" : Cond) ∈ jw := jin (jt_7 _ (List.mem_of_getElem? (i := 71) rfl)) rfl
set_option maxRecDepth 100000 in
theorem m_9 : (.fieldLink RX13 32 "BookOfAllModel" "skipLong" "[I" : Cond) ∈ jw := jin (jt_7 _ (List.mem_of_getElem? (i := 72) rfl)) rfl
set_option maxRecDepth 100000 in
theorem m_10 : (.fieldLink RX13 35 "BookOfAllModel" "codes" "[I" : Cond) ∈ jw := jin (jt_7 _ (List.mem_of_getElem? (i := 74) rfl)) rfl
set_option maxRecDepth 100000 in
theorem m_11 : (.fieldLink RX13 38 "BookOfAllModel" "codesWith" "[I" : Cond) ∈ jw := jin (jt_7 _ (List.mem_of_getElem? (i := 75) rfl)) rfl
set_option maxRecDepth 100000 in
theorem m_12 : (.fieldLink RX13 41 "BookOfAllModel" "sheetBegin" "[I" : Cond) ∈ jw := jin (jt_7 _ (List.mem_of_getElem? (i := 76) rfl)) rfl
set_option maxRecDepth 100000 in
theorem m_13 : (.fieldLink RX13 44 "BookOfAllModel" "sheetEnd" "[I" : Cond) ∈ jw := jin (jt_7 _ (List.mem_of_getElem? (i := 77) rfl)) rfl
set_option maxRecDepth 100000 in
theorem m_14 : (.fieldLink RX13 47 "BookOfAllModel" "sheetSkips" "[I" : Cond) ∈ jw := jin (jt_7 _ (List.mem_of_getElem? (i := 78) rfl)) rfl
set_option maxRecDepth 100000 in
theorem m_15 : (.fieldLink RX13 50 "BookOfAllModel" "skipText" "[B" : Cond) ∈ jw := jin (jt_7 _ (List.mem_of_getElem? (i := 79) rfl)) rfl
set_option maxRecDepth 100000 in
theorem m_16 : (.fieldLink RX13 53 "BookOfAllModel" "skipSize" "[I" : Cond) ∈ jw := jin (jt_7 _ (List.mem_of_getElem? (i := 80) rfl)) rfl
set_option maxRecDepth 100000 in
theorem m_17 : (.fieldLink RX13 56 "BookOfAllModel" "forcedSheet" "[I" : Cond) ∈ jw := jin (jt_7 _ (List.mem_of_getElem? (i := 82) rfl)) rfl
set_option maxRecDepth 100000 in
theorem m_18 : (.fieldLink RX13 59 "BookOfAllModel" "forcedFor" "[I" : Cond) ∈ jw := jin (jt_7 _ (List.mem_of_getElem? (i := 83) rfl)) rfl
set_option maxRecDepth 100000 in
theorem m_19 : (.fieldLink RX13 62 "BookOfAllModel" "forcedIn" "[I" : Cond) ∈ jw := jin (jt_7 _ (List.mem_of_getElem? (i := 84) rfl)) rfl
set_option maxRecDepth 100000 in
theorem m_20 : (.fieldLink RX13 65 "BookOfAllModel" "bounds" "[I" : Cond) ∈ jw := jin (jt_7 _ (List.mem_of_getElem? (i := 86) rfl)) rfl
set_option maxRecDepth 100000 in
theorem m_21 : (.arrayClass .boolean : Cond) ∈ jw := jin (jt_1 _ (List.mem_of_getElem? (i := 239) rfl)) rfl
set_option maxRecDepth 100000 in
theorem m_22 : (.fieldLink RX13 68 "BookOfAllModel" "isSet" "[Z" : Cond) ∈ jw := jin (jt_7 _ (List.mem_of_getElem? (i := 87) rfl)) rfl
set_option maxRecDepth 100000 in
theorem m_23 : (.fieldLink RX13 72 "BookOfAllModel" "setIn" "[I" : Cond) ∈ jw := jin (jt_7 _ (List.mem_of_getElem? (i := 88) rfl)) rfl
set_option maxRecDepth 100000 in
theorem m_24 : (.fieldLink RX13 75 "BookOfAllModel" "setMany" "[I" : Cond) ∈ jw := jin (jt_7 _ (List.mem_of_getElem? (i := 89) rfl)) rfl
set_option maxRecDepth 100000 in
theorem m_25 : (.fieldLink RX13 78 "BookOfAllModel" "setOrder" "[I" : Cond) ∈ jw := jin (jt_7 _ (List.mem_of_getElem? (i := 90) rfl)) rfl
set_option maxRecDepth 100000 in
theorem m_26 : (.fieldLink RX13 81 "BookOfAllModel" "setLines" "[I" : Cond) ∈ jw := jin (jt_7 _ (List.mem_of_getElem? (i := 91) rfl)) rfl
set_option maxRecDepth 100000 in
theorem m_27 : (.fieldLink RX13 84 "BookOfAllModel" "heading" "[B" : Cond) ∈ jw := jin (jt_7 _ (List.mem_of_getElem? (i := 93) rfl)) rfl
set_option maxRecDepth 100000 in
theorem m_28 : (.fieldLink RX13 87 "BookOfAllModel" "headingLong" "[I" : Cond) ∈ jw := jin (jt_7 _ (List.mem_of_getElem? (i := 94) rfl)) rfl
set_option maxRecDepth 100000 in
theorem m_29 : (.fieldLink RX13 90 "BookOfAllModel" "kind" "[I" : Cond) ∈ jw := jin (jt_7 _ (List.mem_of_getElem? (i := 95) rfl)) rfl
set_option maxRecDepth 100000 in
theorem m_30 : (.fieldLink RX13 93 "BookOfAllModel" "sort" "[I" : Cond) ∈ jw := jin (jt_7 _ (List.mem_of_getElem? (i := 96) rfl)) rfl
set_option maxRecDepth 100000 in
theorem m_31 : (.fieldLink RX13 96 "BookOfAllModel" "field" "[I" : Cond) ∈ jw := jin (jt_7 _ (List.mem_of_getElem? (i := 97) rfl)) rfl
set_option maxRecDepth 100000 in
theorem m_32 : (.fieldLink RX13 99 "BookOfAllModel" "asked" "[I" : Cond) ∈ jw := jin (jt_7 _ (List.mem_of_getElem? (i := 98) rfl)) rfl
set_option maxRecDepth 100000 in
theorem m_33 : (.fieldLink RX13 102 "BookOfAllModel" "leads" "[I" : Cond) ∈ jw := jin (jt_7 _ (List.mem_of_getElem? (i := 99) rfl)) rfl
set_option maxRecDepth 100000 in
theorem m_34 : (.fieldLink RX13 105 "BookOfAllModel" "givenTo" "[I" : Cond) ∈ jw := jin (jt_7 _ (List.mem_of_getElem? (i := 100) rfl)) rfl
set_option maxRecDepth 100000 in
theorem m_35 : (.fieldLink RX13 108 "BookOfAllModel" "isStruck" "[Z" : Cond) ∈ jw := jin (jt_7 _ (List.mem_of_getElem? (i := 101) rfl)) rfl
set_option maxRecDepth 100000 in
theorem m_36 : (.fieldLink RX13 111 "BookOfAllModel" "isLater" "[Z" : Cond) ∈ jw := jin (jt_7 _ (List.mem_of_getElem? (i := 102) rfl)) rfl
set_option maxRecDepth 100000 in
theorem m_37 : (.fieldLink RX13 114 "BookOfAllModel" "setWith" "[I" : Cond) ∈ jw := jin (jt_7 _ (List.mem_of_getElem? (i := 103) rfl)) rfl
set_option maxRecDepth 100000 in
theorem m_38 : (.fieldLink RX13 117 "BookOfAllModel" "pageOf" "[I" : Cond) ∈ jw := jin (jt_7 _ (List.mem_of_getElem? (i := 104) rfl)) rfl
set_option maxRecDepth 100000 in
theorem m_39 : (.fieldLink RX13 120 "BookOfAllModel" "fields" "[I" : Cond) ∈ jw := jin (jt_7 _ (List.mem_of_getElem? (i := 106) rfl)) rfl
set_option maxRecDepth 100000 in
theorem m_40 : (.fieldLink RX13 123 "BookOfAllModel" "skill" "[I" : Cond) ∈ jw := jin (jt_7 _ (List.mem_of_getElem? (i := 107) rfl)) rfl
set_option maxRecDepth 100000 in
theorem m_41 : (.fieldLink RX13 126 "BookOfAllModel" "born" "[I" : Cond) ∈ jw := jin (jt_7 _ (List.mem_of_getElem? (i := 108) rfl)) rfl
set_option maxRecDepth 100000 in
theorem m_42 : (.fieldLink RX13 129 "BookOfAllModel" "isDead" "[Z" : Cond) ∈ jw := jin (jt_7 _ (List.mem_of_getElem? (i := 109) rfl)) rfl
set_option maxRecDepth 100000 in
theorem m_43 : (.fieldLink RX13 132 "BookOfAllModel" "areEnemies" "[Z" : Cond) ∈ jw := jin (jt_7 _ (List.mem_of_getElem? (i := 110) rfl)) rfl
set_option maxRecDepth 100000 in
theorem m_44 : (.fieldLink RX13 135 "BookOfAllModel" "lineOf" "[I" : Cond) ∈ jw := jin (jt_7 _ (List.mem_of_getElem? (i := 112) rfl)) rfl
set_option maxRecDepth 100000 in
theorem m_45 : (.fieldLink RX13 138 "BookOfAllModel" "lineHand" "[I" : Cond) ∈ jw := jin (jt_7 _ (List.mem_of_getElem? (i := 113) rfl)) rfl
set_option maxRecDepth 100000 in
theorem m_46 : (.fieldLink RX13 141 "BookOfAllModel" "lineFact" "[I" : Cond) ∈ jw := jin (jt_7 _ (List.mem_of_getElem? (i := 114) rfl)) rfl
set_option maxRecDepth 100000 in
theorem m_47 : (.fieldLink RX13 144 "BookOfAllModel" "lineOn" "[I" : Cond) ∈ jw := jin (jt_7 _ (List.mem_of_getElem? (i := 115) rfl)) rfl
set_option maxRecDepth 100000 in
theorem m_48 : (.fieldLink RX13 147 "BookOfAllModel" "lineKeeps" "[I" : Cond) ∈ jw := jin (jt_7 _ (List.mem_of_getElem? (i := 116) rfl)) rfl
set_option maxRecDepth 100000 in
theorem m_49 : (.fieldLink RX13 150 "BookOfAllModel" "lineTerm" "[I" : Cond) ∈ jw := jin (jt_7 _ (List.mem_of_getElem? (i := 117) rfl)) rfl
set_option maxRecDepth 100000 in
theorem m_50 : (.fieldLink RX13 153 "BookOfAllModel" "linePay" "[I" : Cond) ∈ jw := jin (jt_7 _ (List.mem_of_getElem? (i := 118) rfl)) rfl
set_option maxRecDepth 100000 in
theorem m_51 : (.fieldLink RX13 156 "BookOfAllModel" "linePage" "[I" : Cond) ∈ jw := jin (jt_7 _ (List.mem_of_getElem? (i := 119) rfl)) rfl
set_option maxRecDepth 100000 in
theorem m_52 : (.fieldLink RX13 159 "BookOfAllModel" "linePlace" "[I" : Cond) ∈ jw := jin (jt_7 _ (List.mem_of_getElem? (i := 120) rfl)) rfl
set_option maxRecDepth 100000 in
theorem m_53 : (.fieldLink RX13 162 "BookOfAllModel" "toldFact" "[I" : Cond) ∈ jw := jin (jt_7 _ (List.mem_of_getElem? (i := 122) rfl)) rfl
set_option maxRecDepth 100000 in
theorem m_54 : (.fieldLink RX13 165 "BookOfAllModel" "toldValue" "[I" : Cond) ∈ jw := jin (jt_7 _ (List.mem_of_getElem? (i := 123) rfl)) rfl
set_option maxRecDepth 100000 in
theorem m_55 : (.fieldLink RX13 168 "BookOfAllModel" "toldBy" "[I" : Cond) ∈ jw := jin (jt_7 _ (List.mem_of_getElem? (i := 124) rfl)) rfl
set_option maxRecDepth 100000 in
theorem m_56 : (.fieldLink RX13 171 "BookOfAllModel" "toldIn" "[I" : Cond) ∈ jw := jin (jt_7 _ (List.mem_of_getElem? (i := 125) rfl)) rfl
set_option maxRecDepth 100000 in
theorem m_57 : (.fieldLink RX13 174 "BookOfAllModel" "errorLine" "[I" : Cond) ∈ jw := jin (jt_7 _ (List.mem_of_getElem? (i := 127) rfl)) rfl
set_option maxRecDepth 100000 in
theorem m_58 : (.fieldLink RX13 177 "BookOfAllModel" "errorIs" "[I" : Cond) ∈ jw := jin (jt_7 _ (List.mem_of_getElem? (i := 128) rfl)) rfl
set_option maxRecDepth 100000 in
theorem m_59 : (.fieldLink RX13 180 "BookOfAllModel" "errorShould" "[I" : Cond) ∈ jw := jin (jt_7 _ (List.mem_of_getElem? (i := 129) rfl)) rfl
set_option maxRecDepth 100000 in
theorem m_60 : (.fieldLink RX13 183 "BookOfAllModel" "errorIn" "[I" : Cond) ∈ jw := jin (jt_7 _ (List.mem_of_getElem? (i := 130) rfl)) rfl
set_option maxRecDepth 100000 in
theorem m_61 : (.fieldLink RX13 186 "BookOfAllModel" "subscribedFrom" "[I" : Cond) ∈ jw := jin (jt_7 _ (List.mem_of_getElem? (i := 131) rfl)) rfl
set_option maxRecDepth 100000 in
theorem m_62 : (.fieldLink RX13 189 "BookOfAllModel" "subscribedFor" "[I" : Cond) ∈ jw := jin (jt_7 _ (List.mem_of_getElem? (i := 132) rfl)) rfl
set_option maxRecDepth 100000 in
theorem m_63 : (.fieldLink RX13 192 "BookOfAllModel" "stole" "[I" : Cond) ∈ jw := jin (jt_7 _ (List.mem_of_getElem? (i := 134) rfl)) rfl
set_option maxRecDepth 100000 in
theorem m_64 : (.fieldLink RX13 195 "BookOfAllModel" "names" "[I" : Cond) ∈ jw := jin (jt_7 _ (List.mem_of_getElem? (i := 135) rfl)) rfl
set_option maxRecDepth 100000 in
theorem m_65 : (.fieldLink RX13 198 "BookOfAllModel" "heap" "[I" : Cond) ∈ jw := jin (jt_7 _ (List.mem_of_getElem? (i := 136) rfl)) rfl
set_option maxRecDepth 100000 in
theorem m_66 : (.fieldLink RX13 201 "BookOfAllModel" "keyOne" "[I" : Cond) ∈ jw := jin (jt_7 _ (List.mem_of_getElem? (i := 137) rfl)) rfl
set_option maxRecDepth 100000 in
theorem m_67 : (.fieldLink RX13 204 "BookOfAllModel" "keyTwo" "[I" : Cond) ∈ jw := jin (jt_7 _ (List.mem_of_getElem? (i := 138) rfl)) rfl
set_option maxRecDepth 100000 in
theorem m_68 : (.fieldLink RX13 207 "BookOfAllModel" "told12" "[B" : Cond) ∈ jw := jin (jt_7 _ (List.mem_of_getElem? (i := 139) rfl)) rfl
set_option maxRecDepth 100000 in
theorem m_69 : (.fieldLink RX13 210 "BookOfAllModel" "order" "[I" : Cond) ∈ jw := jin (jt_7 _ (List.mem_of_getElem? (i := 140) rfl)) rfl
set_option maxRecDepth 100000 in
theorem m_70 : (.fieldLink RX13 213 "BookOfAllModel" "low" "[I" : Cond) ∈ jw := jin (jt_7 _ (List.mem_of_getElem? (i := 142) rfl)) rfl
set_option maxRecDepth 100000 in
theorem m_71 : (.fieldLink RX13 216 "BookOfAllModel" "high" "[I" : Cond) ∈ jw := jin (jt_7 _ (List.mem_of_getElem? (i := 143) rfl)) rfl
set_option maxRecDepth 100000 in
theorem m_72 : (.fieldLink RX13 219 "BookOfAllModel" "longs" "[I" : Cond) ∈ jw := jin (jt_7 _ (List.mem_of_getElem? (i := 144) rfl)) rfl
set_option maxRecDepth 100000 in
theorem m_73 : (.fieldLink RX13 222 "BookOfAllModel" "few" "[I" : Cond) ∈ jw := jin (jt_7 _ (List.mem_of_getElem? (i := 146) rfl)) rfl
set_option maxRecDepth 100000 in
theorem m_74 : (.fieldLink RX13 225 "BookOfAllModel" "fewHands" "[I" : Cond) ∈ jw := jin (jt_7 _ (List.mem_of_getElem? (i := 147) rfl)) rfl
set_option maxRecDepth 100000 in
theorem m_75 : (.fieldLink RX13 228 "BookOfAllModel" "can" "[Z" : Cond) ∈ jw := jin (jt_7 _ (List.mem_of_getElem? (i := 148) rfl)) rfl
set_option maxRecDepth 100000 in
theorem m_76 : (.fieldLink RX13 231 "BookOfAllModel" "gets" "[I" : Cond) ∈ jw := jin (jt_7 _ (List.mem_of_getElem? (i := 149) rfl)) rfl
set_option maxRecDepth 100000 in
theorem m_77 : (.fieldLink RX13 234 "BookOfAllModel" "lacks" "[I" : Cond) ∈ jw := jin (jt_7 _ (List.mem_of_getElem? (i := 150) rfl)) rfl
set_option maxRecDepth 100000 in
theorem m_78 : (.fieldLink RX13 237 "BookOfAllModel" "laidLine" "[I" : Cond) ∈ jw := jin (jt_7 _ (List.mem_of_getElem? (i := 156) rfl)) rfl
set_option maxRecDepth 100000 in
theorem m_79 : (.fieldLink RX13 240 "BookOfAllModel" "changes" "[I" : Cond) ∈ jw := jin (jt_7 _ (List.mem_of_getElem? (i := 157) rfl)) rfl
set_option maxRecDepth 100000 in
theorem m_80 : (.fieldLink RX13 243 "BookOfAllModel" "shared" "[I" : Cond) ∈ jw := jin (jt_7 _ (List.mem_of_getElem? (i := 158) rfl)) rfl
set_option maxRecDepth 100000 in
theorem m_81 : (.methodLink RX0 40 yX0_isDigit : Cond) ∈ jw := jin (jt_4 _ (List.mem_of_getElem? (i := 97) rfl)) rfl
set_option maxRecDepth 100000 in
theorem m_82 : (.static yX0_isDigit : Cond) ∈ jw := jin (jt_2 _ (List.mem_of_getElem? (i := 182) rfl)) rfl
set_option maxRecDepth 100000 in
theorem m_83 : (.initialized RX0 : Cond) ∈ jw := jin (jt_1 _ (List.mem_of_getElem? (i := 13) rfl)) rfl
set_option maxRecDepth 100000 in
theorem m_84 : (.code yX0_isDigit cX0_isDigit 1 (some .boolean) : Cond) ∈ jw := jin (jt_2 _ (List.mem_of_getElem? (i := 183) rfl)) rfl
set_option maxRecDepth 100000 in
theorem m_85 : (.methodLink RX0 44 yX0_byteOf : Cond) ∈ jw := jin (jt_4 _ (List.mem_of_getElem? (i := 91) rfl)) rfl
set_option maxRecDepth 100000 in
theorem m_86 : (.static yX0_byteOf : Cond) ∈ jw := jin (jt_4 _ (List.mem_of_getElem? (i := 92) rfl)) rfl
set_option maxRecDepth 100000 in
theorem m_87 : (.code yX0_byteOf cX0_byteOf 5 (some .int) : Cond) ∈ jw := jin (jt_4 _ (List.mem_of_getElem? (i := 93) rfl)) rfl
set_option maxRecDepth 100000 in
theorem m_88 : (.methodLink RX0 48 yX0_isMark : Cond) ∈ jw := jin (jt_4 _ (List.mem_of_getElem? (i := 94) rfl)) rfl
set_option maxRecDepth 100000 in
theorem m_89 : (.static yX0_isMark : Cond) ∈ jw := jin (jt_4 _ (List.mem_of_getElem? (i := 95) rfl)) rfl
set_option maxRecDepth 100000 in
theorem m_90 : (.code yX0_isMark cX0_isMark 1 (some .boolean) : Cond) ∈ jw := jin (jt_4 _ (List.mem_of_getElem? (i := 96) rfl)) rfl
set_option maxRecDepth 100000 in
theorem m_91 : (.fieldLink RX0 36 "BookOfAll$Entry" "heading" "[B" : Cond) ∈ jw := jin (jt_4 _ (List.mem_of_getElem? (i := 109) rfl)) rfl
set_option maxRecDepth 100000 in
theorem m_92 : (.fieldLink RX0 55 "BookOfAll$Entry" "secondWord" "I" : Cond) ∈ jw := jin (jt_4 _ (List.mem_of_getElem? (i := 113) rfl)) rfl
set_option maxRecDepth 100000 in
theorem m_93 : (.fieldLink RX0 51 "BookOfAll$Entry" "firstWord" "J" : Cond) ∈ jw := jin (jt_4 _ (List.mem_of_getElem? (i := 111) rfl)) rfl
set_option maxRecDepth 100000 in
theorem m_94 : (.methodLink RX13 284 yX13_isLetter : Cond) ∈ jw := jin (jt_8 _ (List.mem_of_getElem? (i := 151) rfl)) rfl
set_option maxRecDepth 100000 in
theorem m_95 : (.static yX13_isLetter : Cond) ∈ jw := jin (jt_8 _ (List.mem_of_getElem? (i := 152) rfl)) rfl
set_option maxRecDepth 100000 in
theorem m_96 : (.initialized RX13 : Cond) ∈ jw := jin (jt_1 _ (List.mem_of_getElem? (i := 12) rfl)) rfl
set_option maxRecDepth 100000 in
theorem m_97 : (.code yX13_isLetter cX13_isLetter 1 (some .boolean) : Cond) ∈ jw := jin (jt_8 _ (List.mem_of_getElem? (i := 153) rfl)) rfl
set_option maxRecDepth 100000 in
theorem m_98 : (.methodLink RX13 292 yX13_isDigit : Cond) ∈ jw := jin (jt_8 _ (List.mem_of_getElem? (i := 161) rfl)) rfl
set_option maxRecDepth 100000 in
theorem m_99 : (.static yX13_isDigit : Cond) ∈ jw := jin (jt_8 _ (List.mem_of_getElem? (i := 162) rfl)) rfl
set_option maxRecDepth 100000 in
theorem m_100 : (.code yX13_isDigit cX13_isDigit 1 (some .boolean) : Cond) ∈ jw := jin (jt_8 _ (List.mem_of_getElem? (i := 163) rfl)) rfl
set_option maxRecDepth 100000 in
theorem m_101 : (.fieldLink RX12 10 "BookOfAll" "reader" "LBookOfAll$Reader;" : Cond) ∈ jw := jin (jt_2 _ (List.mem_of_getElem? (i := 87) rfl)) rfl
set_option maxRecDepth 100000 in
theorem m_102 : (.fieldLink RX12 103 "BookOfAll$Reader" "size" "I" : Cond) ∈ jw := jin (jt_1 _ (List.mem_of_getElem? (i := 40) rfl)) rfl
set_option maxRecDepth 100000 in
theorem m_103 : (.fieldLink RX7 43 "BookOfAll$Reader" "size" "I" : Cond) ∈ jw := jin (jt_1 _ (List.mem_of_getElem? (i := 41) rfl)) rfl
set_option maxRecDepth 100000 in
theorem m_104 : (.fieldLink RX7 11 "BookOfAll$Reader" "bytes" "[B" : Cond) ∈ jw := jin (jt_1 _ (List.mem_of_getElem? (i := 39) rfl)) rfl
set_option maxRecDepth 100000 in
theorem m_105 : (.methodLink RX12 107 yX7_append : Cond) ∈ jw := jin (jt_2 _ (List.mem_of_getElem? (i := 150) rfl)) rfl
set_option maxRecDepth 100000 in
theorem m_106 : (.instanceMethod yX7_append : Cond) ∈ jw := jin (jt_2 _ (List.mem_of_getElem? (i := 151) rfl)) rfl
set_option maxRecDepth 100000 in
theorem m_107 : (.selects RX7 yX7_append yX7_append : Cond) ∈ jw := jin (jt_2 _ (List.mem_of_getElem? (i := 152) rfl)) rfl
set_option maxRecDepth 100000 in
theorem m_108 : (.initialized RX7 : Cond) ∈ jw := jin (jt_1 _ (List.mem_of_getElem? (i := 2) rfl)) rfl
set_option maxRecDepth 100000 in
theorem m_109 : (.code yX7_append cX7_append 3 none : Cond) ∈ jw := jin (jt_2 _ (List.mem_of_getElem? (i := 153) rfl)) rfl
set_option maxRecDepth 100000 in
theorem m_110 : (.fieldLink RX7 106 "BookOfAll$Reader" "tokens" "I" : Cond) ∈ jw := jin (jt_1 _ (List.mem_of_getElem? (i := 46) rfl)) rfl
set_option maxRecDepth 100000 in
theorem m_111 : (.methodLink RX7 109 yX7_byteAt : Cond) ∈ jw := jin (jt_2 _ (List.mem_of_getElem? (i := 170) rfl)) rfl
set_option maxRecDepth 100000 in
theorem m_112 : (.instanceMethod yX7_byteAt : Cond) ∈ jw := jin (jt_2 _ (List.mem_of_getElem? (i := 172) rfl)) rfl
set_option maxRecDepth 100000 in
theorem m_113 : (.selects RX7 yX7_byteAt yX7_byteAt : Cond) ∈ jw := jin (jt_p _ (List.mem_of_getElem? (i := 1) rfl)) rfl
set_option maxRecDepth 100000 in
theorem m_114 : (.code yX7_byteAt cX7_byteAt 2 (some .int) : Cond) ∈ jw := jin (jt_2 _ (List.mem_of_getElem? (i := 173) rfl)) rfl
set_option maxRecDepth 100000 in
theorem m_115 : (.methodLink RX7 112 yX7_kindAt : Cond) ∈ jw := jin (jt_2 _ (List.mem_of_getElem? (i := 174) rfl)) rfl
set_option maxRecDepth 100000 in
theorem m_116 : (.instanceMethod yX7_kindAt : Cond) ∈ jw := jin (jt_2 _ (List.mem_of_getElem? (i := 176) rfl)) rfl
set_option maxRecDepth 100000 in
theorem m_117 : (.selects RX7 yX7_kindAt yX7_kindAt : Cond) ∈ jw := jin (jt_p _ (List.mem_of_getElem? (i := 2) rfl)) rfl
set_option maxRecDepth 100000 in
theorem m_118 : (.code yX7_kindAt cX7_kindAt 3 (some .int) : Cond) ∈ jw := jin (jt_2 _ (List.mem_of_getElem? (i := 177) rfl)) rfl
set_option maxRecDepth 100000 in
theorem m_119 : (.methodLink RX7 115 yX7_stopAt : Cond) ∈ jw := jin (jt_3 _ (List.mem_of_getElem? (i := 32) rfl)) rfl
set_option maxRecDepth 100000 in
theorem m_120 : (.instanceMethod yX7_stopAt : Cond) ∈ jw := jin (jt_3 _ (List.mem_of_getElem? (i := 34) rfl)) rfl
set_option maxRecDepth 100000 in
theorem m_121 : (.selects RX7 yX7_stopAt yX7_stopAt : Cond) ∈ jw := jin (jt_p _ (List.mem_of_getElem? (i := 3) rfl)) rfl
set_option maxRecDepth 100000 in
theorem m_122 : (.code yX7_stopAt cX7_stopAt 4 (some .int) : Cond) ∈ jw := jin (jt_3 _ (List.mem_of_getElem? (i := 35) rfl)) rfl
set_option maxRecDepth 100000 in
theorem m_123 : (.fieldLink RX7 15 "BookOfAll$Reader" "kinds" "[I" : Cond) ∈ jw := jin (jt_1 _ (List.mem_of_getElem? (i := 42) rfl)) rfl
set_option maxRecDepth 100000 in
theorem m_124 : (.fieldLink RX7 19 "BookOfAll$Reader" "starts" "[I" : Cond) ∈ jw := jin (jt_1 _ (List.mem_of_getElem? (i := 43) rfl)) rfl
set_option maxRecDepth 100000 in
theorem m_125 : (.fieldLink RX7 22 "BookOfAll$Reader" "stops" "[I" : Cond) ∈ jw := jin (jt_1 _ (List.mem_of_getElem? (i := 44) rfl)) rfl
set_option maxRecDepth 100000 in
theorem m_126 : (.fieldLink RX7 25 "BookOfAll$Reader" "values" "[I" : Cond) ∈ jw := jin (jt_1 _ (List.mem_of_getElem? (i := 45) rfl)) rfl
set_option maxRecDepth 100000 in
theorem m_127 : (.methodLink RX7 118 yX7_addToken : Cond) ∈ jw := jin (jt_3 _ (List.mem_of_getElem? (i := 36) rfl)) rfl
set_option maxRecDepth 100000 in
theorem m_128 : (.instanceMethod yX7_addToken : Cond) ∈ jw := jin (jt_3 _ (List.mem_of_getElem? (i := 38) rfl)) rfl
set_option maxRecDepth 100000 in
theorem m_129 : (.selects RX7 yX7_addToken yX7_addToken : Cond) ∈ jw := jin (jt_p _ (List.mem_of_getElem? (i := 4) rfl)) rfl
set_option maxRecDepth 100000 in
theorem m_130 : (.code yX7_addToken cX7_addToken 4 none : Cond) ∈ jw := jin (jt_3 _ (List.mem_of_getElem? (i := 39) rfl)) rfl
set_option maxRecDepth 100000 in
theorem m_131 : (.methodLink RX7 47 yX7_scan : Cond) ∈ jw := jin (jt_2 _ (List.mem_of_getElem? (i := 166) rfl)) rfl
set_option maxRecDepth 100000 in
theorem m_132 : (.instanceMethod yX7_scan : Cond) ∈ jw := jin (jt_2 _ (List.mem_of_getElem? (i := 168) rfl)) rfl
set_option maxRecDepth 100000 in
theorem m_133 : (.selects RX7 yX7_scan yX7_scan : Cond) ∈ jw := jin (jt_p _ (List.mem_of_getElem? (i := 0) rfl)) rfl
set_option maxRecDepth 100000 in
theorem m_134 : (.code yX7_scan cX7_scan 5 none : Cond) ∈ jw := jin (jt_2 _ (List.mem_of_getElem? (i := 169) rfl)) rfl
set_option maxRecDepth 100000 in
theorem m_135 : (.fieldLink RX7 50 "BookOfAll$Reader" "fault" "I" : Cond) ∈ jw := jin (jt_1 _ (List.mem_of_getElem? (i := 48) rfl)) rfl
set_option maxRecDepth 100000 in
theorem m_136 : (.fieldLink RX7 53 "BookOfAll$Reader" "next" "I" : Cond) ∈ jw := jin (jt_1 _ (List.mem_of_getElem? (i := 47) rfl)) rfl
set_option maxRecDepth 100000 in
theorem m_137 : (.fieldLink RX7 56 "BookOfAll$Reader" "codeSize" "I" : Cond) ∈ jw := jin (jt_1 _ (List.mem_of_getElem? (i := 50) rfl)) rfl
set_option maxRecDepth 100000 in
theorem m_138 : (.fieldLink RX7 59 "BookOfAll$Reader" "wordCount" "I" : Cond) ∈ jw := jin (jt_1 _ (List.mem_of_getElem? (i := 54) rfl)) rfl
set_option maxRecDepth 100000 in
theorem m_139 : (.fieldLink RX7 33 "BookOfAll$Reader" "from" "[I" : Cond) ∈ jw := jin (jt_1 _ (List.mem_of_getElem? (i := 51) rfl)) rfl
set_option maxRecDepth 100000 in
theorem m_140 : (.methodLink RX7 62 yJ7_fill_53178 : Cond) ∈ jw := jin (jt_3 _ (List.mem_of_getElem? (i := 75) rfl)) rfl
set_option maxRecDepth 100000 in
theorem m_141 : (.static yJ7_fill_53178 : Cond) ∈ jw := jin (jt_1 _ (List.mem_of_getElem? (i := 199) rfl)) rfl
set_option maxRecDepth 100000 in
theorem m_142 : (.initialized RJ7 : Cond) ∈ jw := jin (jt_1 _ (List.mem_of_getElem? (i := 8) rfl)) rfl
set_option maxRecDepth 100000 in
theorem m_143 : (.code yJ7_fill_53178 cJ7_fill_53178 4 none : Cond) ∈ jw := jin (jt_1 _ (List.mem_of_getElem? (i := 200) rfl)) rfl
set_option maxRecDepth 100000 in
theorem m_144 : (.methodLink RX7 68 yX7_kind : Cond) ∈ jw := jin (jt_3 _ (List.mem_of_getElem? (i := 76) rfl)) rfl
set_option maxRecDepth 100000 in
theorem m_145 : (.instanceMethod yX7_kind : Cond) ∈ jw := jin (jt_3 _ (List.mem_of_getElem? (i := 78) rfl)) rfl
set_option maxRecDepth 100000 in
theorem m_146 : (.selects RX7 yX7_kind yX7_kind : Cond) ∈ jw := jin (jt_p _ (List.mem_of_getElem? (i := 8) rfl)) rfl
set_option maxRecDepth 100000 in
theorem m_147 : (.code yX7_kind cX7_kind 1 (some .int) : Cond) ∈ jw := jin (jt_3 _ (List.mem_of_getElem? (i := 79) rfl)) rfl
set_option maxRecDepth 100000 in
theorem m_148 : (.methodLink RX12 110 yX7_parse : Cond) ∈ jw := jin (jt_2 _ (List.mem_of_getElem? (i := 162) rfl)) rfl
set_option maxRecDepth 100000 in
theorem m_149 : (.instanceMethod yX7_parse : Cond) ∈ jw := jin (jt_2 _ (List.mem_of_getElem? (i := 163) rfl)) rfl
set_option maxRecDepth 100000 in
theorem m_150 : (.selects RX7 yX7_parse yX7_parse : Cond) ∈ jw := jin (jt_2 _ (List.mem_of_getElem? (i := 164) rfl)) rfl
set_option maxRecDepth 100000 in
theorem m_151 : (.code yX7_parse cX7_parse 2 (some .int) : Cond) ∈ jw := jin (jt_2 _ (List.mem_of_getElem? (i := 165) rfl)) rfl
set_option maxRecDepth 100000 in
theorem m_152 : (.fieldLink RX12 19 "BookOfAll" "rules" "LBookOfAll$Rules;" : Cond) ∈ jw := jin (jt_2 _ (List.mem_of_getElem? (i := 88) rfl)) rfl
set_option maxRecDepth 100000 in
theorem m_153 : (.fieldLink RX8 33 "BookOfAll$Rules" "sheetCount" "I" : Cond) ∈ jw := jin (jt_1 _ (List.mem_of_getElem? (i := 98) rfl)) rfl
set_option maxRecDepth 100000 in
theorem m_154 : (.methodLink RX12 114 yX8_hasRoomForSheet : Cond) ∈ jw := jin (jt_3 _ (List.mem_of_getElem? (i := 152) rfl)) rfl
set_option maxRecDepth 100000 in
theorem m_155 : (.instanceMethod yX8_hasRoomForSheet : Cond) ∈ jw := jin (jt_3 _ (List.mem_of_getElem? (i := 153) rfl)) rfl
set_option maxRecDepth 100000 in
theorem m_156 : (.selects RX8 yX8_hasRoomForSheet yX8_hasRoomForSheet : Cond) ∈ jw := jin (jt_3 _ (List.mem_of_getElem? (i := 154) rfl)) rfl
set_option maxRecDepth 100000 in
theorem m_157 : (.initialized RX8 : Cond) ∈ jw := jin (jt_1 _ (List.mem_of_getElem? (i := 3) rfl)) rfl
set_option maxRecDepth 100000 in
theorem m_158 : (.code yX8_hasRoomForSheet cX8_hasRoomForSheet 1 (some .boolean) : Cond) ∈ jw := jin (jt_3 _ (List.mem_of_getElem? (i := 155) rfl)) rfl
set_option maxRecDepth 100000 in
theorem m_159 : (.classLink RX7 31 RX9 : Cond) ∈ jw := jin (jt_3 _ (List.mem_of_getElem? (i := 160) rfl)) rfl
set_option maxRecDepth 100000 in
theorem m_160 : (.instantiable RX9 4 : Cond) ∈ jw := jin (jt_3 _ (List.mem_of_getElem? (i := 161) rfl)) rfl
set_option maxRecDepth 100000 in
theorem m_161 : (.initialized RX9 : Cond) ∈ jw := jin (jt_1 _ (List.mem_of_getElem? (i := 19) rfl)) rfl
set_option maxRecDepth 100000 in
theorem m_162 : (.methodLink RX9 3 objectInit : Cond) ∈ jw := jin (jt_3 _ (List.mem_of_getElem? (i := 165) rfl)) rfl
set_option maxRecDepth 100000 in
theorem m_163 : (.instanceMethod objectInit : Cond) ∈ jw := jin (jt_1 _ (List.mem_of_getElem? (i := 31) rfl)) rfl
set_option maxRecDepth 100000 in
theorem m_164 : (.code objectInit ⟨#[0xb1]⟩ 1 none : Cond) ∈ jw := jin (jt_1 _ (List.mem_of_getElem? (i := 32) rfl)) rfl
set_option maxRecDepth 100000 in
theorem m_165 : (.code yX9_init cX9_init 1 none : Cond) ∈ jw := jin (jt_3 _ (List.mem_of_getElem? (i := 164) rfl)) rfl
set_option maxRecDepth 100000 in
theorem m_166 : (.instanceMethod yX9_init : Cond) ∈ jw := jin (jt_3 _ (List.mem_of_getElem? (i := 163) rfl)) rfl
set_option maxRecDepth 100000 in
theorem m_167 : (.fieldLink RX7 28 "BookOfAll$Reader" "code" "[I" : Cond) ∈ jw := jin (jt_1 _ (List.mem_of_getElem? (i := 49) rfl)) rfl
set_option maxRecDepth 100000 in
theorem m_168 : (.methodLink RX7 76 Lib.Math.max.name : Cond) ∈ jw := jin (jt_3 _ (List.mem_of_getElem? (i := 184) rfl)) rfl
set_option maxRecDepth 100000 in
theorem m_169 : (.static Lib.Math.max.name : Cond) ∈ jw := jin (jt_2 _ (List.mem_of_getElem? (i := 217) rfl)) rfl
set_option maxRecDepth 100000 in
theorem m_170 : (.initialized "java/lang/Math" : Cond) ∈ jw := jin (jt_1 _ (List.mem_of_getElem? (i := 6) rfl)) rfl
set_option maxRecDepth 100000 in
theorem m_171 : (.code Lib.Math.max.name Lib.Math.max.code 2 (some .int) : Cond) ∈ jw := jin (jt_2 _ (List.mem_of_getElem? (i := 218) rfl)) rfl
set_option maxRecDepth 100000 in
theorem m_172 : (.methodLink RJ7 304 Lib.Math.min.name : Cond) ∈ jw := jin (jt_3 _ (List.mem_of_getElem? (i := 195) rfl)) rfl
set_option maxRecDepth 100000 in
theorem m_173 : (.static Lib.Math.min.name : Cond) ∈ jw := jin (jt_1 _ (List.mem_of_getElem? (i := 157) rfl)) rfl
set_option maxRecDepth 100000 in
theorem m_174 : (.code Lib.Math.min.name Lib.Math.min.code 2 (some .int) : Cond) ∈ jw := jin (jt_1 _ (List.mem_of_getElem? (i := 158) rfl)) rfl
set_option maxRecDepth 100000 in
theorem m_175 : (.methodLink RJ7 150 arraycopyName : Cond) ∈ jw := jin (jt_3 _ (List.mem_of_getElem? (i := 196) rfl)) rfl
set_option maxRecDepth 100000 in
theorem m_176 : (.native arraycopyName : Cond) ∈ jw := jin (jt_3 _ (List.mem_of_getElem? (i := 198) rfl)) rfl
set_option maxRecDepth 100000 in
theorem m_177 : (.static arraycopyName : Cond) ∈ jw := jin (jt_3 _ (List.mem_of_getElem? (i := 197) rfl)) rfl
set_option maxRecDepth 100000 in
theorem m_178 : (.initialized "java/lang/System" : Cond) ∈ jw := jin (jt_1 _ (List.mem_of_getElem? (i := 20) rfl)) rfl
set_option maxRecDepth 100000 in
theorem m_179 : (.methodLink RX7 82 yJ7_copyOf_59c91 : Cond) ∈ jw := jin (jt_3 _ (List.mem_of_getElem? (i := 185) rfl)) rfl
set_option maxRecDepth 100000 in
theorem m_180 : (.static yJ7_copyOf_59c91 : Cond) ∈ jw := jin (jt_3 _ (List.mem_of_getElem? (i := 186) rfl)) rfl
set_option maxRecDepth 100000 in
theorem m_181 : (.code yJ7_copyOf_59c91 cJ7_copyOf_59c91 3 (some (.array .int)) : Cond) ∈ jw := jin (jt_3 _ (List.mem_of_getElem? (i := 187) rfl)) rfl
set_option maxRecDepth 100000 in
theorem m_182 : (.fieldLink RX7 86 "BookOfAll$Sheet" "code" "[I" : Cond) ∈ jw := jin (jt_3 _ (List.mem_of_getElem? (i := 166) rfl)) rfl
set_option maxRecDepth 100000 in
theorem m_183 : (.methodLink RX7 87 ⟨"[I", "clone", "()Ljava/lang/Object;"⟩ : Cond) ∈ jw := jin (jt_3 _ (List.mem_of_getElem? (i := 199) rfl)) rfl
set_option maxRecDepth 100000 in
theorem m_184 : (.sameMethod "[I" "java/lang/Object" "clone" "()Ljava/lang/Object;" : Cond) ∈ jw := jin (jt_3 _ (List.mem_of_getElem? (i := 189) rfl)) rfl
set_option maxRecDepth 100000 in
theorem m_185 : (.native ⟨"java/lang/Object", "clone", "()Ljava/lang/Object;"⟩ : Cond) ∈ jw := jin (jt_3 _ (List.mem_of_getElem? (i := 190) rfl)) rfl
set_option maxRecDepth 100000 in
theorem m_186 : (.instanceMethod ⟨"java/lang/Object", "clone", "()Ljava/lang/Object;"⟩ : Cond) ∈ jw := jin (jt_3 _ (List.mem_of_getElem? (i := 191) rfl)) rfl
set_option maxRecDepth 100000 in
theorem m_187 : (.selects "[I" ⟨"[I", "clone", "()Ljava/lang/Object;"⟩ ⟨"java/lang/Object", "clone", "()Ljava/lang/Object;"⟩ : Cond) ∈ jw := jin (jt_3 _ (List.mem_of_getElem? (i := 192) rfl)) rfl
set_option maxRecDepth 100000 in
theorem m_188 : (.classLink RX7 88 "[I" : Cond) ∈ jw := jin (jt_3 _ (List.mem_of_getElem? (i := 200) rfl)) rfl
set_option maxRecDepth 100000 in
theorem m_189 : (.fieldLink RX7 92 "BookOfAll$Sheet" "from" "[I" : Cond) ∈ jw := jin (jt_3 _ (List.mem_of_getElem? (i := 169) rfl)) rfl
set_option maxRecDepth 100000 in
theorem m_190 : (.fieldLink RX7 36 "BookOfAll$Reader" "to" "[I" : Cond) ∈ jw := jin (jt_1 _ (List.mem_of_getElem? (i := 52) rfl)) rfl
set_option maxRecDepth 100000 in
theorem m_191 : (.fieldLink RX7 93 "BookOfAll$Sheet" "to" "[I" : Cond) ∈ jw := jin (jt_3 _ (List.mem_of_getElem? (i := 171) rfl)) rfl
set_option maxRecDepth 100000 in
theorem m_192 : (.fieldLink RX7 39 "BookOfAll$Reader" "words" "[J" : Cond) ∈ jw := jin (jt_1 _ (List.mem_of_getElem? (i := 53) rfl)) rfl
set_option maxRecDepth 100000 in
theorem m_193 : (.arrayClass .long : Cond) ∈ jw := jin (jt_1 _ (List.mem_of_getElem? (i := 88) rfl)) rfl
set_option maxRecDepth 100000 in
theorem m_194 : (.methodLink RX7 94 yJ7_copyOf_c38d5 : Cond) ∈ jw := jin (jt_3 _ (List.mem_of_getElem? (i := 201) rfl)) rfl
set_option maxRecDepth 100000 in
theorem m_195 : (.static yJ7_copyOf_c38d5 : Cond) ∈ jw := jin (jt_3 _ (List.mem_of_getElem? (i := 202) rfl)) rfl
set_option maxRecDepth 100000 in
theorem m_196 : (.code yJ7_copyOf_c38d5 cJ7_copyOf_c38d5 3 (some (.array .long)) : Cond) ∈ jw := jin (jt_3 _ (List.mem_of_getElem? (i := 203) rfl)) rfl
set_option maxRecDepth 100000 in
theorem m_197 : (.fieldLink RX7 97 "BookOfAll$Sheet" "words" "[J" : Cond) ∈ jw := jin (jt_3 _ (List.mem_of_getElem? (i := 174) rfl)) rfl
set_option maxRecDepth 100000 in
theorem m_198 : (.methodLink RX12 118 yX7_compiled : Cond) ∈ jw := jin (jt_3 _ (List.mem_of_getElem? (i := 156) rfl)) rfl
set_option maxRecDepth 100000 in
theorem m_199 : (.instanceMethod yX7_compiled : Cond) ∈ jw := jin (jt_3 _ (List.mem_of_getElem? (i := 157) rfl)) rfl
set_option maxRecDepth 100000 in
theorem m_200 : (.selects RX7 yX7_compiled yX7_compiled : Cond) ∈ jw := jin (jt_3 _ (List.mem_of_getElem? (i := 158) rfl)) rfl
set_option maxRecDepth 100000 in
theorem m_201 : (.code yX7_compiled cX7_compiled 2 (some (.object "BookOfAll$Sheet")) : Cond) ∈ jw := jin (jt_3 _ (List.mem_of_getElem? (i := 159) rfl)) rfl
set_option maxRecDepth 100000 in
theorem m_202 : (.fieldLink RX8 13 "BookOfAll$Rules" "sheets" "[LBookOfAll$Sheet;" : Cond) ∈ jw := jin (jt_1 _ (List.mem_of_getElem? (i := 97) rfl)) rfl
set_option maxRecDepth 100000 in
theorem m_203 : (.methodLink RX12 122 yX8_keep : Cond) ∈ jw := jin (jt_3 _ (List.mem_of_getElem? (i := 209) rfl)) rfl
set_option maxRecDepth 100000 in
theorem m_204 : (.instanceMethod yX8_keep : Cond) ∈ jw := jin (jt_3 _ (List.mem_of_getElem? (i := 210) rfl)) rfl
set_option maxRecDepth 100000 in
theorem m_205 : (.selects RX8 yX8_keep yX8_keep : Cond) ∈ jw := jin (jt_3 _ (List.mem_of_getElem? (i := 211) rfl)) rfl
set_option maxRecDepth 100000 in
theorem m_206 : (.code yX8_keep cX8_keep 2 (some .int) : Cond) ∈ jw := jin (jt_3 _ (List.mem_of_getElem? (i := 212) rfl)) rfl
set_option maxRecDepth 100000 in
theorem m_207 : (.methodLink RX12 126 yX12_isVolume : Cond) ∈ jw := jin (jt_3 _ (List.mem_of_getElem? (i := 217) rfl)) rfl
set_option maxRecDepth 100000 in
theorem m_208 : (.instanceMethod yX12_isVolume : Cond) ∈ jw := jin (jt_3 _ (List.mem_of_getElem? (i := 219) rfl)) rfl
set_option maxRecDepth 100000 in
theorem m_209 : (.selects RX12 yX12_isVolume yX12_isVolume : Cond) ∈ jw := jin (jt_p _ (List.mem_of_getElem? (i := 26) rfl)) rfl
set_option maxRecDepth 100000 in
theorem m_210 : (.initialized RX12 : Cond) ∈ jw := jin (jt_1 _ (List.mem_of_getElem? (i := 1) rfl)) rfl
set_option maxRecDepth 100000 in
theorem m_211 : (.code yX12_isVolume cX12_isVolume 2 (some .boolean) : Cond) ∈ jw := jin (jt_3 _ (List.mem_of_getElem? (i := 220) rfl)) rfl
set_option maxRecDepth 100000 in
theorem m_212 : (.fieldLink RX12 158 "BookOfAll" "setBits" "I" : Cond) ∈ jw := jin (jt_2 _ (List.mem_of_getElem? (i := 86) rfl)) rfl
set_option maxRecDepth 100000 in
theorem m_213 : (.methodLink RX12 130 yX12_isSet : Cond) ∈ jw := jin (jt_3 _ (List.mem_of_getElem? (i := 221) rfl)) rfl
set_option maxRecDepth 100000 in
theorem m_214 : (.instanceMethod yX12_isSet : Cond) ∈ jw := jin (jt_3 _ (List.mem_of_getElem? (i := 223) rfl)) rfl
set_option maxRecDepth 100000 in
theorem m_215 : (.selects RX12 yX12_isSet yX12_isSet : Cond) ∈ jw := jin (jt_p _ (List.mem_of_getElem? (i := 27) rfl)) rfl
set_option maxRecDepth 100000 in
theorem m_216 : (.code yX12_isSet cX12_isSet 2 (some .boolean) : Cond) ∈ jw := jin (jt_3 _ (List.mem_of_getElem? (i := 224) rfl)) rfl
set_option maxRecDepth 100000 in
theorem m_217 : (.fieldLink RX12 133 "BookOfAll" "now" "I" : Cond) ∈ jw := jin (jt_2 _ (List.mem_of_getElem? (i := 85) rfl)) rfl
set_option maxRecDepth 100000 in
theorem m_218 : (.methodLink RX12 136 yX8_put : Cond) ∈ jw := jin (jt_3 _ (List.mem_of_getElem? (i := 225) rfl)) rfl
set_option maxRecDepth 100000 in
theorem m_219 : (.instanceMethod yX8_put : Cond) ∈ jw := jin (jt_3 _ (List.mem_of_getElem? (i := 226) rfl)) rfl
set_option maxRecDepth 100000 in
theorem m_220 : (.selects RX8 yX8_put yX8_put : Cond) ∈ jw := jin (jt_3 _ (List.mem_of_getElem? (i := 227) rfl)) rfl
set_option maxRecDepth 100000 in
theorem m_221 : (.code yX8_put cX8_put 4 (some .int) : Cond) ∈ jw := jin (jt_3 _ (List.mem_of_getElem? (i := 228) rfl)) rfl
set_option maxRecDepth 100000 in
theorem m_222 : (.methodLink RX12 143 yX9_sortOf : Cond) ∈ jw := jin (jt_4 _ (List.mem_of_getElem? (i := 67) rfl)) rfl
set_option maxRecDepth 100000 in
theorem m_223 : (.static yX9_sortOf : Cond) ∈ jw := jin (jt_4 _ (List.mem_of_getElem? (i := 68) rfl)) rfl
set_option maxRecDepth 100000 in
theorem m_224 : (.code yX9_sortOf cX9_sortOf 3 (some .int) : Cond) ∈ jw := jin (jt_4 _ (List.mem_of_getElem? (i := 69) rfl)) rfl
set_option maxRecDepth 100000 in
theorem m_225 : (.fieldLink RX8 37 "BookOfAll$Rules" "puts" "I" : Cond) ∈ jw := jin (jt_1 _ (List.mem_of_getElem? (i := 103) rfl)) rfl
set_option maxRecDepth 100000 in
theorem m_226 : (.methodLink RX12 149 yX8_inForce : Cond) ∈ jw := jin (jt_4 _ (List.mem_of_getElem? (i := 70) rfl)) rfl
set_option maxRecDepth 100000 in
theorem m_227 : (.instanceMethod yX8_inForce : Cond) ∈ jw := jin (jt_4 _ (List.mem_of_getElem? (i := 4) rfl)) rfl
set_option maxRecDepth 100000 in
theorem m_228 : (.selects RX8 yX8_inForce yX8_inForce : Cond) ∈ jw := jin (jt_4 _ (List.mem_of_getElem? (i := 5) rfl)) rfl
set_option maxRecDepth 100000 in
theorem m_229 : (.code yX8_inForce cX8_inForce 6 (some .int) : Cond) ∈ jw := jin (jt_4 _ (List.mem_of_getElem? (i := 6) rfl)) rfl
set_option maxRecDepth 100000 in
theorem m_230 : (.methodLink RX12 152 Lib.Math.min.name : Cond) ∈ jw := jin (jt_4 _ (List.mem_of_getElem? (i := 75) rfl)) rfl
set_option maxRecDepth 100000 in
theorem m_231 : (.fieldLink RX12 34 "BookOfAll" "volumes" "[LBookOfAll$Volume;" : Cond) ∈ jw := jin (jt_2 _ (List.mem_of_getElem? (i := 90) rfl)) rfl
set_option maxRecDepth 100000 in
theorem m_232 : (.methodLink RX12 166 yX12_volumeAt : Cond) ∈ jw := jin (jt_4 _ (List.mem_of_getElem? (i := 59) rfl)) rfl
set_option maxRecDepth 100000 in
theorem m_233 : (.instanceMethod yX12_volumeAt : Cond) ∈ jw := jin (jt_4 _ (List.mem_of_getElem? (i := 61) rfl)) rfl
set_option maxRecDepth 100000 in
theorem m_234 : (.selects RX12 yX12_volumeAt yX12_volumeAt : Cond) ∈ jw := jin (jt_p _ (List.mem_of_getElem? (i := 34) rfl)) rfl
set_option maxRecDepth 100000 in
theorem m_235 : (.code yX12_volumeAt cX12_volumeAt 2 (some (.object "BookOfAll$Volume")) : Cond) ∈ jw := jin (jt_4 _ (List.mem_of_getElem? (i := 62) rfl)) rfl
set_option maxRecDepth 100000 in
theorem m_236 : (.methodLink RX12 161 yX12_lastLetter : Cond) ∈ jw := jin (jt_4 _ (List.mem_of_getElem? (i := 55) rfl)) rfl
set_option maxRecDepth 100000 in
theorem m_237 : (.instanceMethod yX12_lastLetter : Cond) ∈ jw := jin (jt_4 _ (List.mem_of_getElem? (i := 57) rfl)) rfl
set_option maxRecDepth 100000 in
theorem m_238 : (.selects RX12 yX12_lastLetter yX12_lastLetter : Cond) ∈ jw := jin (jt_p _ (List.mem_of_getElem? (i := 33) rfl)) rfl
set_option maxRecDepth 100000 in
theorem m_239 : (.code yX12_lastLetter cX12_lastLetter 3 (some .int) : Cond) ∈ jw := jin (jt_4 _ (List.mem_of_getElem? (i := 58) rfl)) rfl
set_option maxRecDepth 100000 in
theorem m_240 : (.fieldLink RX12 164 "BookOfAll$Volume" "lastLetter" "I" : Cond) ∈ jw := jin (jt_1 _ (List.mem_of_getElem? (i := 160) rfl)) rfl
set_option maxRecDepth 100000 in
theorem m_241 : (.fieldLink RX12 28 "BookOfAll" "order" "LBookOfAll$Order;" : Cond) ∈ jw := jin (jt_2 _ (List.mem_of_getElem? (i := 89) rfl)) rfl
set_option maxRecDepth 100000 in
theorem m_242 : (.fieldLink RX6 13 "BookOfAll$Order" "volume" "I" : Cond) ∈ jw := jin (jt_1 _ (List.mem_of_getElem? (i := 130) rfl)) rfl
set_option maxRecDepth 100000 in
theorem m_243 : (.fieldLink RX6 17 "BookOfAll$Order" "day" "I" : Cond) ∈ jw := jin (jt_1 _ (List.mem_of_getElem? (i := 131) rfl)) rfl
set_option maxRecDepth 100000 in
theorem m_244 : (.fieldLink RX6 20 "BookOfAll$Order" "skips" "Z" : Cond) ∈ jw := jin (jt_1 _ (List.mem_of_getElem? (i := 132) rfl)) rfl
set_option maxRecDepth 100000 in
theorem m_245 : (.fieldLink RX6 7 "BookOfAll$Order" "rules" "LBookOfAll$Rules;" : Cond) ∈ jw := jin (jt_1 _ (List.mem_of_getElem? (i := 129) rfl)) rfl
set_option maxRecDepth 100000 in
theorem m_246 : (.fieldLink RX8 58 "BookOfAll$Rules" "WITHOUT" "[I" : Cond) ∈ jw := jin (jt_4 _ (List.mem_of_getElem? (i := 1) rfl)) rfl
set_option maxRecDepth 100000 in
theorem m_247 : (.methodLink RX8 61 yX8_inForce : Cond) ∈ jw := jin (jt_4 _ (List.mem_of_getElem? (i := 3) rfl)) rfl
set_option maxRecDepth 100000 in
theorem m_248 : (.methodLink RX6 26 yX8_valueOf : Cond) ∈ jw := jin (jt_3 _ (List.mem_of_getElem? (i := 237) rfl)) rfl
set_option maxRecDepth 100000 in
theorem m_249 : (.instanceMethod yX8_valueOf : Cond) ∈ jw := jin (jt_3 _ (List.mem_of_getElem? (i := 238) rfl)) rfl
