theorem jt_all : ∀ w ∈ tables_1, w ∈ lw_tbl := fun _ h => List.mem_append_right _ h
theorem jt_1 : ∀ w ∈ tables_1_1, w ∈ lw_tbl := fun w h => jt_all w (List.mem_append_left _ h)
theorem jt_2 : ∀ w ∈ tables_1_2, w ∈ lw_tbl := fun w h => jt_all w (List.mem_append_right _ (List.mem_append_left _ h))
theorem jt_3 : ∀ w ∈ tables_1_3, w ∈ lw_tbl := fun w h => jt_all w (List.mem_append_right _ (List.mem_append_right _ (List.mem_append_left _ h)))
theorem jt_4 : ∀ w ∈ tables_1_4, w ∈ lw_tbl := fun w h => jt_all w (List.mem_append_right _ (List.mem_append_right _ (List.mem_append_right _ (List.mem_append_left _ h))))
theorem jt_5 : ∀ w ∈ tables_1_5, w ∈ lw_tbl := fun w h => jt_all w (List.mem_append_right _ (List.mem_append_right _ (List.mem_append_right _ (List.mem_append_right _ (List.mem_append_left _ h)))))
theorem jt_6 : ∀ w ∈ tables_1_6, w ∈ lw_tbl := fun w h => jt_all w (List.mem_append_right _ (List.mem_append_right _ (List.mem_append_right _ (List.mem_append_right _ (List.mem_append_right _ (List.mem_append_left _ h))))))
theorem jt_7 : ∀ w ∈ tables_1_7, w ∈ lw_tbl := fun w h => jt_all w (List.mem_append_right _ (List.mem_append_right _ (List.mem_append_right _ (List.mem_append_right _ (List.mem_append_right _ (List.mem_append_right _ (List.mem_append_left _ h)))))))
theorem jt_8 : ∀ w ∈ tables_1_8, w ∈ lw_tbl := fun w h => jt_all w (List.mem_append_right _ (List.mem_append_right _ (List.mem_append_right _ (List.mem_append_right _ (List.mem_append_right _ (List.mem_append_right _ (List.mem_append_right _ (List.mem_append_left _ h))))))))
theorem jt_9 : ∀ w ∈ tables_1_9, w ∈ lw_tbl := fun w h => jt_all w (List.mem_append_right _ (List.mem_append_right _ (List.mem_append_right _ (List.mem_append_right _ (List.mem_append_right _ (List.mem_append_right _ (List.mem_append_right _ (List.mem_append_right _ (List.mem_append_left _ h)))))))))
theorem jt_10 : ∀ w ∈ tables_1_10, w ∈ lw_tbl := fun w h => jt_all w (List.mem_append_right _ (List.mem_append_right _ (List.mem_append_right _ (List.mem_append_right _ (List.mem_append_right _ (List.mem_append_right _ (List.mem_append_right _ (List.mem_append_right _ (List.mem_append_right _ (h))))))))))
theorem jt_p : ∀ w ∈ k2_sels lw_privs, w ∈ lw_tbl := fun _ h => List.mem_append_left _ h
set_option maxRecDepth 100000 in
theorem m_0 : (.arrayClass .byte : Cond) ∈ jw := jin (jt_1 _ (List.mem_of_getElem? (i := 86) rfl)) rfl
set_option maxRecDepth 100000 in
theorem m_1 : (.fieldLink RX13 9 "BookOfAllModel" "text" "[B" : Cond) ∈ jw := jin (jt_7 _ (List.mem_of_getElem? (i := 55) rfl)) rfl
set_option maxRecDepth 100000 in
theorem m_2 : (.arrayClass .int : Cond) ∈ jw := jin (jt_1 _ (List.mem_of_getElem? (i := 87) rfl)) rfl
set_option maxRecDepth 100000 in
theorem m_3 : (.fieldLink RX13 13 "BookOfAllModel" "toCome" "[I" : Cond) ∈ jw := jin (jt_7 _ (List.mem_of_getElem? (i := 61) rfl)) rfl
set_option maxRecDepth 100000 in
theorem m_4 : (.fieldLink RX13 17 "BookOfAllModel" "does" "[I" : Cond) ∈ jw := jin (jt_7 _ (List.mem_of_getElem? (i := 65) rfl)) rfl
set_option maxRecDepth 100000 in
theorem m_5 : (.fieldLink RX13 20 "BookOfAllModel" "doesWith" "[I" : Cond) ∈ jw := jin (jt_7 _ (List.mem_of_getElem? (i := 66) rfl)) rfl
set_option maxRecDepth 100000 in
theorem m_6 : (.fieldLink RX13 23 "BookOfAllModel" "slotBegin" "[I" : Cond) ∈ jw := jin (jt_7 _ (List.mem_of_getElem? (i := 68) rfl)) rfl
set_option maxRecDepth 100000 in
theorem m_7 : (.fieldLink RX13 26 "BookOfAllModel" "slotEnd" "[I" : Cond) ∈ jw := jin (jt_7 _ (List.mem_of_getElem? (i := 69) rfl)) rfl
set_option maxRecDepth 100000 in
theorem m_8 : (.fieldLink RX13 29 "BookOfAllModel" "skipAt" "[I" : Cond) ∈ jw := jin (jt_7 _ (List.mem_of_getElem? (i := 71) rfl)) rfl
set_option maxRecDepth 100000 in
theorem m_9 : (.fieldLink RX13 32 "BookOfAllModel" "skipLong" "[I" : Cond) ∈ jw := jin (jt_7 _ (List.mem_of_getElem? (i := 72) rfl)) rfl
set_option maxRecDepth 100000 in
theorem m_10 : (.fieldLink RX13 35 "BookOfAllModel" "codes" "[I" : Cond) ∈ jw := jin (jt_7 _ (List.mem_of_getElem? (i := 74) rfl)) rfl
set_option maxRecDepth 100000 in
theorem m_11 : (.fieldLink RX13 38 "BookOfAllModel" "codesWith" "[I" : Cond) ∈ jw := jin (jt_7 _ (List.mem_of_getElem? (i := 75) rfl)) rfl
set_option maxRecDepth 100000 in
theorem m_12 : (.fieldLink RX13 41 "BookOfAllModel" "sheetBegin" "[I" : Cond) ∈ jw := jin (jt_7 _ (List.mem_of_getElem? (i := 76) rfl)) rfl
set_option maxRecDepth 100000 in
theorem m_13 : (.fieldLink RX13 44 "BookOfAllModel" "sheetEnd" "[I" : Cond) ∈ jw := jin (jt_7 _ (List.mem_of_getElem? (i := 77) rfl)) rfl
set_option maxRecDepth 100000 in
theorem m_14 : (.fieldLink RX13 47 "BookOfAllModel" "sheetSkips" "[I" : Cond) ∈ jw := jin (jt_7 _ (List.mem_of_getElem? (i := 78) rfl)) rfl
set_option maxRecDepth 100000 in
theorem m_15 : (.fieldLink RX13 50 "BookOfAllModel" "skipText" "[B" : Cond) ∈ jw := jin (jt_7 _ (List.mem_of_getElem? (i := 79) rfl)) rfl
set_option maxRecDepth 100000 in
theorem m_16 : (.fieldLink RX13 53 "BookOfAllModel" "skipSize" "[I" : Cond) ∈ jw := jin (jt_7 _ (List.mem_of_getElem? (i := 80) rfl)) rfl
set_option maxRecDepth 100000 in
theorem m_17 : (.fieldLink RX13 56 "BookOfAllModel" "forcedSheet" "[I" : Cond) ∈ jw := jin (jt_7 _ (List.mem_of_getElem? (i := 82) rfl)) rfl
set_option maxRecDepth 100000 in
theorem m_18 : (.fieldLink RX13 59 "BookOfAllModel" "forcedFor" "[I" : Cond) ∈ jw := jin (jt_7 _ (List.mem_of_getElem? (i := 83) rfl)) rfl
set_option maxRecDepth 100000 in
theorem m_19 : (.fieldLink RX13 62 "BookOfAllModel" "forcedIn" "[I" : Cond) ∈ jw := jin (jt_7 _ (List.mem_of_getElem? (i := 84) rfl)) rfl
set_option maxRecDepth 100000 in
theorem m_20 : (.fieldLink RX13 65 "BookOfAllModel" "bounds" "[I" : Cond) ∈ jw := jin (jt_7 _ (List.mem_of_getElem? (i := 86) rfl)) rfl
set_option maxRecDepth 100000 in
theorem m_21 : (.arrayClass .boolean : Cond) ∈ jw := jin (jt_1 _ (List.mem_of_getElem? (i := 239) rfl)) rfl
set_option maxRecDepth 100000 in
theorem m_22 : (.fieldLink RX13 68 "BookOfAllModel" "isSet" "[Z" : Cond) ∈ jw := jin (jt_7 _ (List.mem_of_getElem? (i := 87) rfl)) rfl
set_option maxRecDepth 100000 in
theorem m_23 : (.fieldLink RX13 72 "BookOfAllModel" "setIn" "[I" : Cond) ∈ jw := jin (jt_7 _ (List.mem_of_getElem? (i := 88) rfl)) rfl
set_option maxRecDepth 100000 in
theorem m_24 : (.fieldLink RX13 75 "BookOfAllModel" "setMany" "[I" : Cond) ∈ jw := jin (jt_7 _ (List.mem_of_getElem? (i := 89) rfl)) rfl
set_option maxRecDepth 100000 in
theorem m_25 : (.fieldLink RX13 78 "BookOfAllModel" "setOrder" "[I" : Cond) ∈ jw := jin (jt_7 _ (List.mem_of_getElem? (i := 90) rfl)) rfl
set_option maxRecDepth 100000 in
theorem m_26 : (.fieldLink RX13 81 "BookOfAllModel" "setLines" "[I" : Cond) ∈ jw := jin (jt_7 _ (List.mem_of_getElem? (i := 91) rfl)) rfl
set_option maxRecDepth 100000 in
theorem m_27 : (.fieldLink RX13 84 "BookOfAllModel" "heading" "[B" : Cond) ∈ jw := jin (jt_7 _ (List.mem_of_getElem? (i := 93) rfl)) rfl
set_option maxRecDepth 100000 in
theorem m_28 : (.fieldLink RX13 87 "BookOfAllModel" "headingLong" "[I" : Cond) ∈ jw := jin (jt_7 _ (List.mem_of_getElem? (i := 94) rfl)) rfl
set_option maxRecDepth 100000 in
theorem m_29 : (.fieldLink RX13 90 "BookOfAllModel" "kind" "[I" : Cond) ∈ jw := jin (jt_7 _ (List.mem_of_getElem? (i := 95) rfl)) rfl
set_option maxRecDepth 100000 in
theorem m_30 : (.fieldLink RX13 93 "BookOfAllModel" "sort" "[I" : Cond) ∈ jw := jin (jt_7 _ (List.mem_of_getElem? (i := 96) rfl)) rfl
set_option maxRecDepth 100000 in
theorem m_31 : (.fieldLink RX13 96 "BookOfAllModel" "field" "[I" : Cond) ∈ jw := jin (jt_7 _ (List.mem_of_getElem? (i := 97) rfl)) rfl
set_option maxRecDepth 100000 in
theorem m_32 : (.fieldLink RX13 99 "BookOfAllModel" "asked" "[I" : Cond) ∈ jw := jin (jt_7 _ (List.mem_of_getElem? (i := 98) rfl)) rfl
set_option maxRecDepth 100000 in
theorem m_33 : (.fieldLink RX13 102 "BookOfAllModel" "leads" "[I" : Cond) ∈ jw := jin (jt_7 _ (List.mem_of_getElem? (i := 99) rfl)) rfl
set_option maxRecDepth 100000 in
theorem m_34 : (.fieldLink RX13 105 "BookOfAllModel" "givenTo" "[I" : Cond) ∈ jw := jin (jt_7 _ (List.mem_of_getElem? (i := 100) rfl)) rfl
set_option maxRecDepth 100000 in
theorem m_35 : (.fieldLink RX13 108 "BookOfAllModel" "isStruck" "[Z" : Cond) ∈ jw := jin (jt_7 _ (List.mem_of_getElem? (i := 101) rfl)) rfl
set_option maxRecDepth 100000 in
theorem m_36 : (.fieldLink RX13 111 "BookOfAllModel" "isLater" "[Z" : Cond) ∈ jw := jin (jt_7 _ (List.mem_of_getElem? (i := 102) rfl)) rfl
set_option maxRecDepth 100000 in
theorem m_37 : (.fieldLink RX13 114 "BookOfAllModel" "setWith" "[I" : Cond) ∈ jw := jin (jt_7 _ (List.mem_of_getElem? (i := 103) rfl)) rfl
set_option maxRecDepth 100000 in
theorem m_38 : (.fieldLink RX13 117 "BookOfAllModel" "pageOf" "[I" : Cond) ∈ jw := jin (jt_7 _ (List.mem_of_getElem? (i := 104) rfl)) rfl
set_option maxRecDepth 100000 in
theorem m_39 : (.fieldLink RX13 120 "BookOfAllModel" "fields" "[I" : Cond) ∈ jw := jin (jt_7 _ (List.mem_of_getElem? (i := 106) rfl)) rfl
set_option maxRecDepth 100000 in
theorem m_40 : (.fieldLink RX13 123 "BookOfAllModel" "skill" "[I" : Cond) ∈ jw := jin (jt_7 _ (List.mem_of_getElem? (i := 107) rfl)) rfl
set_option maxRecDepth 100000 in
theorem m_41 : (.fieldLink RX13 126 "BookOfAllModel" "born" "[I" : Cond) ∈ jw := jin (jt_7 _ (List.mem_of_getElem? (i := 108) rfl)) rfl
set_option maxRecDepth 100000 in
theorem m_42 : (.fieldLink RX13 129 "BookOfAllModel" "isDead" "[Z" : Cond) ∈ jw := jin (jt_7 _ (List.mem_of_getElem? (i := 109) rfl)) rfl
set_option maxRecDepth 100000 in
theorem m_43 : (.fieldLink RX13 132 "BookOfAllModel" "areEnemies" "[Z" : Cond) ∈ jw := jin (jt_7 _ (List.mem_of_getElem? (i := 110) rfl)) rfl
set_option maxRecDepth 100000 in
theorem m_44 : (.fieldLink RX13 135 "BookOfAllModel" "lineOf" "[I" : Cond) ∈ jw := jin (jt_7 _ (List.mem_of_getElem? (i := 112) rfl)) rfl
set_option maxRecDepth 100000 in
theorem m_45 : (.fieldLink RX13 138 "BookOfAllModel" "lineHand" "[I" : Cond) ∈ jw := jin (jt_7 _ (List.mem_of_getElem? (i := 113) rfl)) rfl
set_option maxRecDepth 100000 in
theorem m_46 : (.fieldLink RX13 141 "BookOfAllModel" "lineFact" "[I" : Cond) ∈ jw := jin (jt_7 _ (List.mem_of_getElem? (i := 114) rfl)) rfl
set_option maxRecDepth 100000 in
theorem m_47 : (.fieldLink RX13 144 "BookOfAllModel" "lineOn" "[I" : Cond) ∈ jw := jin (jt_7 _ (List.mem_of_getElem? (i := 115) rfl)) rfl
set_option maxRecDepth 100000 in
theorem m_48 : (.fieldLink RX13 147 "BookOfAllModel" "lineKeeps" "[I" : Cond) ∈ jw := jin (jt_7 _ (List.mem_of_getElem? (i := 116) rfl)) rfl
set_option maxRecDepth 100000 in
theorem m_49 : (.fieldLink RX13 150 "BookOfAllModel" "lineTerm" "[I" : Cond) ∈ jw := jin (jt_7 _ (List.mem_of_getElem? (i := 117) rfl)) rfl
set_option maxRecDepth 100000 in
theorem m_50 : (.fieldLink RX13 153 "BookOfAllModel" "linePay" "[I" : Cond) ∈ jw := jin (jt_7 _ (List.mem_of_getElem? (i := 118) rfl)) rfl
set_option maxRecDepth 100000 in
theorem m_51 : (.fieldLink RX13 156 "BookOfAllModel" "linePage" "[I" : Cond) ∈ jw := jin (jt_7 _ (List.mem_of_getElem? (i := 119) rfl)) rfl
set_option maxRecDepth 100000 in
theorem m_52 : (.fieldLink RX13 159 "BookOfAllModel" "linePlace" "[I" : Cond) ∈ jw := jin (jt_7 _ (List.mem_of_getElem? (i := 120) rfl)) rfl
set_option maxRecDepth 100000 in
theorem m_53 : (.fieldLink RX13 162 "BookOfAllModel" "toldFact" "[I" : Cond) ∈ jw := jin (jt_7 _ (List.mem_of_getElem? (i := 122) rfl)) rfl
set_option maxRecDepth 100000 in
theorem m_54 : (.fieldLink RX13 165 "BookOfAllModel" "toldValue" "[I" : Cond) ∈ jw := jin (jt_7 _ (List.mem_of_getElem? (i := 123) rfl)) rfl
set_option maxRecDepth 100000 in
theorem m_55 : (.fieldLink RX13 168 "BookOfAllModel" "toldBy" "[I" : Cond) ∈ jw := jin (jt_7 _ (List.mem_of_getElem? (i := 124) rfl)) rfl
set_option maxRecDepth 100000 in
theorem m_56 : (.fieldLink RX13 171 "BookOfAllModel" "toldIn" "[I" : Cond) ∈ jw := jin (jt_7 _ (List.mem_of_getElem? (i := 125) rfl)) rfl
set_option maxRecDepth 100000 in
theorem m_57 : (.fieldLink RX13 174 "BookOfAllModel" "errorLine" "[I" : Cond) ∈ jw := jin (jt_7 _ (List.mem_of_getElem? (i := 127) rfl)) rfl
set_option maxRecDepth 100000 in
theorem m_58 : (.fieldLink RX13 177 "BookOfAllModel" "errorIs" "[I" : Cond) ∈ jw := jin (jt_7 _ (List.mem_of_getElem? (i := 128) rfl)) rfl
set_option maxRecDepth 100000 in
theorem m_59 : (.fieldLink RX13 180 "BookOfAllModel" "errorShould" "[I" : Cond) ∈ jw := jin (jt_7 _ (List.mem_of_getElem? (i := 129) rfl)) rfl
set_option maxRecDepth 100000 in
theorem m_60 : (.fieldLink RX13 183 "BookOfAllModel" "errorIn" "[I" : Cond) ∈ jw := jin (jt_7 _ (List.mem_of_getElem? (i := 130) rfl)) rfl
set_option maxRecDepth 100000 in
theorem m_61 : (.fieldLink RX13 186 "BookOfAllModel" "subscribedFrom" "[I" : Cond) ∈ jw := jin (jt_7 _ (List.mem_of_getElem? (i := 131) rfl)) rfl
set_option maxRecDepth 100000 in
theorem m_62 : (.fieldLink RX13 189 "BookOfAllModel" "subscribedFor" "[I" : Cond) ∈ jw := jin (jt_7 _ (List.mem_of_getElem? (i := 132) rfl)) rfl
set_option maxRecDepth 100000 in
theorem m_63 : (.fieldLink RX13 192 "BookOfAllModel" "stole" "[I" : Cond) ∈ jw := jin (jt_7 _ (List.mem_of_getElem? (i := 134) rfl)) rfl
set_option maxRecDepth 100000 in
theorem m_64 : (.fieldLink RX13 195 "BookOfAllModel" "names" "[I" : Cond) ∈ jw := jin (jt_7 _ (List.mem_of_getElem? (i := 135) rfl)) rfl
set_option maxRecDepth 100000 in
theorem m_65 : (.fieldLink RX13 198 "BookOfAllModel" "heap" "[I" : Cond) ∈ jw := jin (jt_7 _ (List.mem_of_getElem? (i := 136) rfl)) rfl
set_option maxRecDepth 100000 in
theorem m_66 : (.fieldLink RX13 201 "BookOfAllModel" "keyOne" "[I" : Cond) ∈ jw := jin (jt_7 _ (List.mem_of_getElem? (i := 137) rfl)) rfl
set_option maxRecDepth 100000 in
theorem m_67 : (.fieldLink RX13 204 "BookOfAllModel" "keyTwo" "[I" : Cond) ∈ jw := jin (jt_7 _ (List.mem_of_getElem? (i := 138) rfl)) rfl
set_option maxRecDepth 100000 in
theorem m_68 : (.fieldLink RX13 207 "BookOfAllModel" "told12" "[B" : Cond) ∈ jw := jin (jt_7 _ (List.mem_of_getElem? (i := 139) rfl)) rfl
set_option maxRecDepth 100000 in
theorem m_69 : (.fieldLink RX13 210 "BookOfAllModel" "order" "[I" : Cond) ∈ jw := jin (jt_7 _ (List.mem_of_getElem? (i := 140) rfl)) rfl
set_option maxRecDepth 100000 in
theorem m_70 : (.fieldLink RX13 213 "BookOfAllModel" "low" "[I" : Cond) ∈ jw := jin (jt_7 _ (List.mem_of_getElem? (i := 142) rfl)) rfl
set_option maxRecDepth 100000 in
theorem m_71 : (.fieldLink RX13 216 "BookOfAllModel" "high" "[I" : Cond) ∈ jw := jin (jt_7 _ (List.mem_of_getElem? (i := 143) rfl)) rfl
set_option maxRecDepth 100000 in
theorem m_72 : (.fieldLink RX13 219 "BookOfAllModel" "longs" "[I" : Cond) ∈ jw := jin (jt_7 _ (List.mem_of_getElem? (i := 144) rfl)) rfl
set_option maxRecDepth 100000 in
theorem m_73 : (.fieldLink RX13 222 "BookOfAllModel" "few" "[I" : Cond) ∈ jw := jin (jt_7 _ (List.mem_of_getElem? (i := 146) rfl)) rfl
set_option maxRecDepth 100000 in
theorem m_74 : (.fieldLink RX13 225 "BookOfAllModel" "fewHands" "[I" : Cond) ∈ jw := jin (jt_7 _ (List.mem_of_getElem? (i := 147) rfl)) rfl
set_option maxRecDepth 100000 in
theorem m_75 : (.fieldLink RX13 228 "BookOfAllModel" "can" "[Z" : Cond) ∈ jw := jin (jt_7 _ (List.mem_of_getElem? (i := 148) rfl)) rfl
set_option maxRecDepth 100000 in
theorem m_76 : (.fieldLink RX13 231 "BookOfAllModel" "gets" "[I" : Cond) ∈ jw := jin (jt_7 _ (List.mem_of_getElem? (i := 149) rfl)) rfl
set_option maxRecDepth 100000 in
theorem m_77 : (.fieldLink RX13 234 "BookOfAllModel" "lacks" "[I" : Cond) ∈ jw := jin (jt_7 _ (List.mem_of_getElem? (i := 150) rfl)) rfl
set_option maxRecDepth 100000 in
theorem m_78 : (.fieldLink RX13 237 "BookOfAllModel" "laidLine" "[I" : Cond) ∈ jw := jin (jt_7 _ (List.mem_of_getElem? (i := 156) rfl)) rfl
set_option maxRecDepth 100000 in
theorem m_79 : (.fieldLink RX13 240 "BookOfAllModel" "changes" "[I" : Cond) ∈ jw := jin (jt_7 _ (List.mem_of_getElem? (i := 157) rfl)) rfl
set_option maxRecDepth 100000 in
theorem m_80 : (.fieldLink RX13 243 "BookOfAllModel" "shared" "[I" : Cond) ∈ jw := jin (jt_7 _ (List.mem_of_getElem? (i := 158) rfl)) rfl
set_option maxRecDepth 100000 in
theorem m_81 : (.fieldLink RX13 252 "BookOfAllModel" "size" "I" : Cond) ∈ jw := jin (jt_7 _ (List.mem_of_getElem? (i := 56) rfl)) rfl
set_option maxRecDepth 100000 in
theorem m_82 : (.fieldLink RX13 272 "BookOfAllModel" "at" "I" : Cond) ∈ jw := jin (jt_7 _ (List.mem_of_getElem? (i := 57) rfl)) rfl
set_option maxRecDepth 100000 in
theorem m_83 : (.fieldLink RX13 281 "BookOfAllModel" "token" "I" : Cond) ∈ jw := jin (jt_7 _ (List.mem_of_getElem? (i := 58) rfl)) rfl
set_option maxRecDepth 100000 in
theorem m_84 : (.fieldLink RX13 275 "BookOfAllModel" "tokenAt" "I" : Cond) ∈ jw := jin (jt_7 _ (List.mem_of_getElem? (i := 59) rfl)) rfl
set_option maxRecDepth 100000 in
theorem m_85 : (.fieldLink RX13 278 "BookOfAllModel" "tokenValue" "I" : Cond) ∈ jw := jin (jt_7 _ (List.mem_of_getElem? (i := 60) rfl)) rfl
set_option maxRecDepth 100000 in
theorem m_86 : (.fieldLink RX13 295 "BookOfAllModel" "coming" "I" : Cond) ∈ jw := jin (jt_7 _ (List.mem_of_getElem? (i := 62) rfl)) rfl
set_option maxRecDepth 100000 in
theorem m_87 : (.fieldLink RX13 304 "BookOfAllModel" "deep" "I" : Cond) ∈ jw := jin (jt_7 _ (List.mem_of_getElem? (i := 63) rfl)) rfl
set_option maxRecDepth 100000 in
theorem m_88 : (.fieldLink RX13 346 "BookOfAllModel" "slot" "I" : Cond) ∈ jw := jin (jt_7 _ (List.mem_of_getElem? (i := 64) rfl)) rfl
set_option maxRecDepth 100000 in
theorem m_89 : (.fieldLink RX13 298 "BookOfAllModel" "doing" "I" : Cond) ∈ jw := jin (jt_7 _ (List.mem_of_getElem? (i := 67) rfl)) rfl
set_option maxRecDepth 100000 in
theorem m_90 : (.fieldLink RX13 361 "BookOfAllModel" "skips" "I" : Cond) ∈ jw := jin (jt_7 _ (List.mem_of_getElem? (i := 70) rfl)) rfl
set_option maxRecDepth 100000 in
theorem m_91 : (.fieldLink RX13 374 "BookOfAllModel" "sheets" "I" : Cond) ∈ jw := jin (jt_7 _ (List.mem_of_getElem? (i := 73) rfl)) rfl
set_option maxRecDepth 100000 in
theorem m_92 : (.fieldLink RX13 380 "BookOfAllModel" "forced" "I" : Cond) ∈ jw := jin (jt_7 _ (List.mem_of_getElem? (i := 81) rfl)) rfl
set_option maxRecDepth 100000 in
theorem m_93 : (.fieldLink RX13 383 "BookOfAllModel" "now" "I" : Cond) ∈ jw := jin (jt_7 _ (List.mem_of_getElem? (i := 85) rfl)) rfl
set_option maxRecDepth 100000 in
theorem m_94 : (.fieldLink RX13 418 "BookOfAllModel" "entries" "I" : Cond) ∈ jw := jin (jt_7 _ (List.mem_of_getElem? (i := 92) rfl)) rfl
set_option maxRecDepth 100000 in
theorem m_95 : (.fieldLink RX13 445 "BookOfAllModel" "hands" "I" : Cond) ∈ jw := jin (jt_7 _ (List.mem_of_getElem? (i := 105) rfl)) rfl
set_option maxRecDepth 100000 in
theorem m_96 : (.fieldLink RX13 452 "BookOfAllModel" "lines" "I" : Cond) ∈ jw := jin (jt_7 _ (List.mem_of_getElem? (i := 111) rfl)) rfl
set_option maxRecDepth 100000 in
theorem m_97 : (.fieldLink RX13 476 "BookOfAllModel" "told" "I" : Cond) ∈ jw := jin (jt_7 _ (List.mem_of_getElem? (i := 121) rfl)) rfl
set_option maxRecDepth 100000 in
theorem m_98 : (.fieldLink RX13 488 "BookOfAllModel" "errata" "I" : Cond) ∈ jw := jin (jt_7 _ (List.mem_of_getElem? (i := 126) rfl)) rfl
set_option maxRecDepth 100000 in
theorem m_99 : (.fieldLink RX13 546 "BookOfAllModel" "stolen" "I" : Cond) ∈ jw := jin (jt_7 _ (List.mem_of_getElem? (i := 133) rfl)) rfl
set_option maxRecDepth 100000 in
theorem m_100 : (.fieldLink RX13 491 "BookOfAllModel" "missed" "I" : Cond) ∈ jw := jin (jt_7 _ (List.mem_of_getElem? (i := 141) rfl)) rfl
set_option maxRecDepth 100000 in
theorem m_101 : (.fieldLink RX13 515 "BookOfAllModel" "differs" "I" : Cond) ∈ jw := jin (jt_7 _ (List.mem_of_getElem? (i := 145) rfl)) rfl
set_option maxRecDepth 100000 in
theorem m_102 : (.fieldLink RX13 525 "BookOfAllModel" "fewMany" "I" : Cond) ∈ jw := jin (jt_7 _ (List.mem_of_getElem? (i := 151) rfl)) rfl
set_option maxRecDepth 100000 in
theorem m_103 : (.fieldLink RX13 528 "BookOfAllModel" "handMany" "I" : Cond) ∈ jw := jin (jt_7 _ (List.mem_of_getElem? (i := 152) rfl)) rfl
set_option maxRecDepth 100000 in
theorem m_104 : (.fieldLink RX13 540 "BookOfAllModel" "bestCode" "I" : Cond) ∈ jw := jin (jt_7 _ (List.mem_of_getElem? (i := 153) rfl)) rfl
set_option maxRecDepth 100000 in
theorem m_105 : (.fieldLink RX13 531 "BookOfAllModel" "bestMany" "I" : Cond) ∈ jw := jin (jt_7 _ (List.mem_of_getElem? (i := 154) rfl)) rfl
set_option maxRecDepth 100000 in
theorem m_106 : (.fieldLink RX13 537 "BookOfAllModel" "bestLines" "I" : Cond) ∈ jw := jin (jt_7 _ (List.mem_of_getElem? (i := 155) rfl)) rfl
set_option maxRecDepth 100000 in
theorem m_107 : (.code yX13_article cX13_article 7 (some .int) : Cond) ∈ jw := jin (jt_9 _ (List.mem_of_getElem? (i := 24) rfl)) rfl
set_option maxRecDepth 100000 in
theorem m_108 : (.code yX13_asks cX13_asks 4 none : Cond) ∈ jw := jin (jt_9 _ (List.mem_of_getElem? (i := 157) rfl)) rfl
set_option maxRecDepth 100000 in
theorem m_109 : (.code yX13_at cX13_at 3 (some .int) : Cond) ∈ jw := jin (jt_9 _ (List.mem_of_getElem? (i := 104) rfl)) rfl
set_option maxRecDepth 100000 in
theorem m_110 : (.code yX13_begins cX13_begins 3 (some .boolean) : Cond) ∈ jw := jin (jt_8 _ (List.mem_of_getElem? (i := 204) rfl)) rfl
set_option maxRecDepth 100000 in
theorem m_111 : (.code yX13_better cX13_better 3 none : Cond) ∈ jw := jin (jt_10 _ (List.mem_of_getElem? (i := 93) rfl)) rfl
set_option maxRecDepth 100000 in
theorem m_112 : (.code yX13_both cX13_both 3 (some .boolean) : Cond) ∈ jw := jin (jt_8 _ (List.mem_of_getElem? (i := 208) rfl)) rfl
set_option maxRecDepth 100000 in
theorem m_113 : (.code yX13_bound cX13_bound 4 (some .boolean) : Cond) ∈ jw := jin (jt_9 _ (List.mem_of_getElem? (i := 20) rfl)) rfl
set_option maxRecDepth 100000 in
theorem m_114 : (.code yX13_bounded cX13_bounded 1 (some .int) : Cond) ∈ jw := jin (jt_10 _ (List.mem_of_getElem? (i := 48) rfl)) rfl
set_option maxRecDepth 100000 in
theorem m_115 : (.code yX13_bringsTo cX13_bringsTo 13 (some .int) : Cond) ∈ jw := jin (jt_10 _ (List.mem_of_getElem? (i := 45) rfl)) rfl
set_option maxRecDepth 100000 in
theorem m_116 : (.code yX13_byKey cX13_byKey 7 (some .int) : Cond) ∈ jw := jin (jt_9 _ (List.mem_of_getElem? (i := 60) rfl)) rfl
set_option maxRecDepth 100000 in
theorem m_117 : (.code yX13_canBeSet cX13_canBeSet 5 (some .boolean) : Cond) ∈ jw := jin (jt_10 _ (List.mem_of_getElem? (i := 5) rfl)) rfl
set_option maxRecDepth 100000 in
theorem m_118 : (.code yX13_canGo cX13_canGo 2 (some .boolean) : Cond) ∈ jw := jin (jt_9 _ (List.mem_of_getElem? (i := 96) rfl)) rfl
set_option maxRecDepth 100000 in
theorem m_119 : (.code yX13_choice cX13_choice 5 (some .boolean) : Cond) ∈ jw := jin (jt_8 _ (List.mem_of_getElem? (i := 196) rfl)) rfl
set_option maxRecDepth 100000 in
theorem m_120 : (.code yX13_clauses cX13_clauses 2 (some .boolean) : Cond) ∈ jw := jin (jt_8 _ (List.mem_of_getElem? (i := 188) rfl)) rfl
set_option maxRecDepth 100000 in
theorem m_121 : (.code yX13_compared cX13_compared 8 (some .int) : Cond) ∈ jw := jin (jt_9 _ (List.mem_of_getElem? (i := 116) rfl)) rfl
set_option maxRecDepth 100000 in
theorem m_122 : (.code yX13_compares cX13_compares 1 (some .boolean) : Cond) ∈ jw := jin (jt_8 _ (List.mem_of_getElem? (i := 233) rfl)) rfl
set_option maxRecDepth 100000 in
theorem m_123 : (.code yX13_count cX13_count 4 (some .int) : Cond) ∈ jw := jin (jt_10 _ (List.mem_of_getElem? (i := 101) rfl)) rfl
set_option maxRecDepth 100000 in
theorem m_124 : (.code yX13_deeper cX13_deeper 1 (some .boolean) : Cond) ∈ jw := jin (jt_8 _ (List.mem_of_getElem? (i := 221) rfl)) rfl
set_option maxRecDepth 100000 in
theorem m_125 : (.code yX13_die cX13_die 4 (some .int) : Cond) ∈ jw := jin (jt_9 _ (List.mem_of_getElem? (i := 181) rfl)) rfl
set_option maxRecDepth 100000 in
theorem m_126 : (.code yX13_emits cX13_emits 3 none : Cond) ∈ jw := jin (jt_8 _ (List.mem_of_getElem? (i := 176) rfl)) rfl
set_option maxRecDepth 100000 in
theorem m_127 : (.code yX13_end cX13_end 2 (some .boolean) : Cond) ∈ jw := jin (jt_8 _ (List.mem_of_getElem? (i := 135) rfl)) rfl
set_option maxRecDepth 100000 in
theorem m_128 : (.code yX13_endOf cX13_endOf 4 (some .int) : Cond) ∈ jw := jin (jt_10 _ (List.mem_of_getElem? (i := 17) rfl)) rfl
set_option maxRecDepth 100000 in
theorem m_129 : (.code yX13_ends cX13_ends 2 (some .int) : Cond) ∈ jw := jin (jt_10 _ (List.mem_of_getElem? (i := 13) rfl)) rfl
set_option maxRecDepth 100000 in
theorem m_130 : (.code yX13_enemies cX13_enemies 3 (some .boolean) : Cond) ∈ jw := jin (jt_9 _ (List.mem_of_getElem? (i := 129) rfl)) rfl
set_option maxRecDepth 100000 in
theorem m_131 : (.code yX13_erratum cX13_erratum 4 (some .int) : Cond) ∈ jw := jin (jt_9 _ (List.mem_of_getElem? (i := 229) rfl)) rfl
set_option maxRecDepth 100000 in
theorem m_132 : (.code yX13_factor cX13_factor 1 (some .boolean) : Cond) ∈ jw := jin (jt_8 _ (List.mem_of_getElem? (i := 216) rfl)) rfl
set_option maxRecDepth 100000 in
theorem m_133 : (.code yX13_factsOf cX13_factsOf 6 (some .int) : Cond) ∈ jw := jin (jt_9 _ (List.mem_of_getElem? (i := 161) rfl)) rfl
set_option maxRecDepth 100000 in
theorem m_134 : (.code yX13_fault cX13_fault 1 (some .int) : Cond) ∈ jw := jin (jt_8 _ (List.mem_of_getElem? (i := 142) rfl)) rfl
set_option maxRecDepth 100000 in
theorem m_135 : (.code yX13_feed cX13_feed 8 (some .int) : Cond) ∈ jw := jin (jt_8 _ (List.mem_of_getElem? (i := 131) rfl)) rfl
set_option maxRecDepth 100000 in
theorem m_136 : (.code yX13_force cX13_force 3 (some .int) : Cond) ∈ jw := jin (jt_9 _ (List.mem_of_getElem? (i := 1) rfl)) rfl
set_option maxRecDepth 100000 in
theorem m_137 : (.code yX13_forget cX13_forget 2 (some .int) : Cond) ∈ jw := jin (jt_10 _ (List.mem_of_getElem? (i := 81) rfl)) rfl
set_option maxRecDepth 100000 in
theorem m_138 : (.code yX13_give cX13_give 3 (some .boolean) : Cond) ∈ jw := jin (jt_9 _ (List.mem_of_getElem? (i := 137) rfl)) rfl
set_option maxRecDepth 100000 in
theorem m_139 : (.code yX13_given cX13_given 7 (some .int) : Cond) ∈ jw := jin (jt_10 _ (List.mem_of_getElem? (i := 69) rfl)) rfl
set_option maxRecDepth 100000 in
theorem m_140 : (.code yX13_gives cX13_gives 7 (some .boolean) : Cond) ∈ jw := jin (jt_10 _ (List.mem_of_getElem? (i := 60) rfl)) rfl
set_option maxRecDepth 100000 in
theorem m_141 : (.code yX13_giving cX13_giving 4 (some .int) : Cond) ∈ jw := jin (jt_10 _ (List.mem_of_getElem? (i := 56) rfl)) rfl
set_option maxRecDepth 100000 in
theorem m_142 : (.code yX13_go cX13_go 2 (some .int) : Cond) ∈ jw := jin (jt_9 _ (List.mem_of_getElem? (i := 16) rfl)) rfl
set_option maxRecDepth 100000 in
theorem m_143 : (.code yX13_hand cX13_hand 4 (some .int) : Cond) ∈ jw := jin (jt_9 _ (List.mem_of_getElem? (i := 124) rfl)) rfl
set_option maxRecDepth 100000 in
theorem m_144 : (.code yX13_hangs cX13_hangs 2 (some .boolean) : Cond) ∈ jw := jin (jt_9 _ (List.mem_of_getElem? (i := 185) rfl)) rfl
set_option maxRecDepth 100000 in
theorem m_145 : (.code yX13_headingOf cX13_headingOf 9 (some .int) : Cond) ∈ jw := jin (jt_9 _ (List.mem_of_getElem? (i := 28) rfl)) rfl
set_option maxRecDepth 100000 in
theorem m_146 : (.code yX13_holds cX13_holds 1 (some .boolean) : Cond) ∈ jw := jin (jt_8 _ (List.mem_of_getElem? (i := 229) rfl)) rfl
set_option maxRecDepth 100000 in
theorem m_147 : (.code yX13_in cX13_in 3 (some .boolean) : Cond) ∈ jw := jin (jt_8 _ (List.mem_of_getElem? (i := 138) rfl)) rfl
set_option maxRecDepth 100000 in
theorem m_148 : (.code yX13_inForce cX13_inForce 5 (some .int) : Cond) ∈ jw := jin (jt_9 _ (List.mem_of_getElem? (i := 12) rfl)) rfl
set_option maxRecDepth 100000 in
theorem m_149 : (.code yX13_index cX13_index 9 (some .int) : Cond) ∈ jw := jin (jt_10 _ (List.mem_of_getElem? (i := 73) rfl)) rfl
set_option maxRecDepth 100000 in
theorem m_150 : (.code yX13_is cX13_is 5 (some .int) : Cond) ∈ jw := jin (jt_10 _ (List.mem_of_getElem? (i := 97) rfl)) rfl
set_option maxRecDepth 100000 in
theorem m_151 : (.code yX13_isAhead cX13_isAhead 6 (some .boolean) : Cond) ∈ jw := jin (jt_9 _ (List.mem_of_getElem? (i := 112) rfl)) rfl
set_option maxRecDepth 100000 in
theorem m_152 : (.code yX13_isArticle cX13_isArticle 2 (some .boolean) : Cond) ∈ jw := jin (jt_9 _ (List.mem_of_getElem? (i := 145) rfl)) rfl
set_option maxRecDepth 100000 in
theorem m_153 : (.code yX13_isDigit cX13_isDigit 1 (some .boolean) : Cond) ∈ jw := jin (jt_8 _ (List.mem_of_getElem? (i := 163) rfl)) rfl
set_option maxRecDepth 100000 in
theorem m_154 : (.code yX13_isDone cX13_isDone 2 (some .boolean) : Cond) ∈ jw := jin (jt_9 _ (List.mem_of_getElem? (i := 149) rfl)) rfl
set_option maxRecDepth 100000 in
theorem m_155 : (.code yX13_isEntry cX13_isEntry 2 (some .boolean) : Cond) ∈ jw := jin (jt_9 _ (List.mem_of_getElem? (i := 40) rfl)) rfl
set_option maxRecDepth 100000 in
theorem m_156 : (.code yX13_isGone cX13_isGone 2 (some .boolean) : Cond) ∈ jw := jin (jt_10 _ (List.mem_of_getElem? (i := 25) rfl)) rfl
set_option maxRecDepth 100000 in
theorem m_157 : (.code yX13_isHand cX13_isHand 2 (some .boolean) : Cond) ∈ jw := jin (jt_9 _ (List.mem_of_getElem? (i := 133) rfl)) rfl
set_option maxRecDepth 100000 in
theorem m_158 : (.code yX13_isLetter cX13_isLetter 1 (some .boolean) : Cond) ∈ jw := jin (jt_8 _ (List.mem_of_getElem? (i := 153) rfl)) rfl
set_option maxRecDepth 100000 in
theorem m_159 : (.code yX13_isLine cX13_isLine 2 (some .boolean) : Cond) ∈ jw := jin (jt_9 _ (List.mem_of_getElem? (i := 205) rfl)) rfl
set_option maxRecDepth 100000 in
theorem m_160 : (.code yX13_isSetLine cX13_isSetLine 2 (some .boolean) : Cond) ∈ jw := jin (jt_9 _ (List.mem_of_getElem? (i := 225) rfl)) rfl
set_option maxRecDepth 100000 in
theorem m_161 : (.code yX13_isSign cX13_isSign 2 (some .boolean) : Cond) ∈ jw := jin (jt_8 _ (List.mem_of_getElem? (i := 180) rfl)) rfl
set_option maxRecDepth 100000 in
theorem m_162 : (.code yX13_isSkipped cX13_isSkipped 9 (some .boolean) : Cond) ∈ jw := jin (jt_9 _ (List.mem_of_getElem? (i := 88) rfl)) rfl
set_option maxRecDepth 100000 in
theorem m_163 : (.code yX13_isStale cX13_isStale 4 (some .boolean) : Cond) ∈ jw := jin (jt_9 _ (List.mem_of_getElem? (i := 209) rfl)) rfl
set_option maxRecDepth 100000 in
theorem m_164 : (.code yX13_isVolume cX13_isVolume 1 (some .boolean) : Cond) ∈ jw := jin (jt_9 _ (List.mem_of_getElem? (i := 4) rfl)) rfl
set_option maxRecDepth 100000 in
theorem m_165 : (.code yX13_isWord cX13_isWord 2 (some .boolean) : Cond) ∈ jw := jin (jt_8 _ (List.mem_of_getElem? (i := 200) rfl)) rfl
set_option maxRecDepth 100000 in
theorem m_166 : (.code yX13_keeps cX13_keeps 6 (some .int) : Cond) ∈ jw := jin (jt_9 _ (List.mem_of_getElem? (i := 213) rfl)) rfl
set_option maxRecDepth 100000 in
theorem m_167 : (.code yX13_key cX13_key 12 (some .int) : Cond) ∈ jw := jin (jt_9 _ (List.mem_of_getElem? (i := 64) rfl)) rfl
set_option maxRecDepth 100000 in
theorem m_168 : (.code yX13_known cX13_known 5 (some .int) : Cond) ∈ jw := jin (jt_9 _ (List.mem_of_getElem? (i := 197) rfl)) rfl
set_option maxRecDepth 100000 in
theorem m_169 : (.code yX13_knownOf cX13_knownOf 4 (some .int) : Cond) ∈ jw := jin (jt_9 _ (List.mem_of_getElem? (i := 177) rfl)) rfl
set_option maxRecDepth 100000 in
theorem m_170 : (.code yX13_lateOf cX13_lateOf 4 (some .int) : Cond) ∈ jw := jin (jt_9 _ (List.mem_of_getElem? (i := 165) rfl)) rfl
set_option maxRecDepth 100000 in
theorem m_171 : (.code yX13_later cX13_later 2 (some .boolean) : Cond) ∈ jw := jin (jt_9 _ (List.mem_of_getElem? (i := 100) rfl)) rfl
set_option maxRecDepth 100000 in
theorem m_172 : (.code yX13_laysOn cX13_laysOn 8 none : Cond) ∈ jw := jin (jt_10 _ (List.mem_of_getElem? (i := 89) rfl)) rfl
set_option maxRecDepth 100000 in
theorem m_173 : (.code yX13_length cX13_length 3 (some .int) : Cond) ∈ jw := jin (jt_10 _ (List.mem_of_getElem? (i := 52) rfl)) rfl
set_option maxRecDepth 100000 in
theorem m_174 : (.code yX13_lengths cX13_lengths 3 (some .int) : Cond) ∈ jw := jin (jt_10 _ (List.mem_of_getElem? (i := 41) rfl)) rfl
set_option maxRecDepth 100000 in
theorem m_175 : (.code yX13_line cX13_line 7 (some .int) : Cond) ∈ jw := jin (jt_9 _ (List.mem_of_getElem? (i := 169) rfl)) rfl
set_option maxRecDepth 100000 in
theorem m_176 : (.code yX13_linesOf cX13_linesOf 4 (some .int) : Cond) ∈ jw := jin (jt_9 _ (List.mem_of_getElem? (i := 153) rfl)) rfl
set_option maxRecDepth 100000 in
theorem m_177 : (.code yX13_mayBeGiven cX13_mayBeGiven 4 (some .boolean) : Cond) ∈ jw := jin (jt_9 _ (List.mem_of_getElem? (i := 141) rfl)) rfl
set_option maxRecDepth 100000 in
theorem m_178 : (.code yX13_mend cX13_mend 2 (some .int) : Cond) ∈ jw := jin (jt_9 _ (List.mem_of_getElem? (i := 221) rfl)) rfl
set_option maxRecDepth 100000 in
theorem m_179 : (.code yX13_misses cX13_misses 2 (some .int) : Cond) ∈ jw := jin (jt_9 _ (List.mem_of_getElem? (i := 233) rfl)) rfl
set_option maxRecDepth 100000 in
theorem m_180 : (.code yX13_more cX13_more 8 (some .boolean) : Cond) ∈ jw := jin (jt_8 _ (List.mem_of_getElem? (i := 212) rfl)) rfl
set_option maxRecDepth 100000 in
theorem m_181 : (.code yX13_moreWords cX13_moreWords 5 (some .boolean) : Cond) ∈ jw := jin (jt_8 _ (List.mem_of_getElem? (i := 225) rfl)) rfl
set_option maxRecDepth 100000 in
theorem m_182 : (.code yX13_near cX13_near 2 (some .int) : Cond) ∈ jw := jin (jt_9 _ (List.mem_of_getElem? (i := 81) rfl)) rfl
set_option maxRecDepth 100000 in
theorem m_183 : (.code yX13_newEntry cX13_newEntry 4 (some .int) : Cond) ∈ jw := jin (jt_9 _ (List.mem_of_getElem? (i := 32) rfl)) rfl
set_option maxRecDepth 100000 in
theorem m_184 : (.code yX13_next cX13_next 2 none : Cond) ∈ jw := jin (jt_8 _ (List.mem_of_getElem? (i := 150) rfl)) rfl
set_option maxRecDepth 100000 in
theorem m_185 : (.code yX13_of cX13_of 3 (some .int) : Cond) ∈ jw := jin (jt_9 _ (List.mem_of_getElem? (i := 78) rfl)) rfl
set_option maxRecDepth 100000 in
theorem m_186 : (.code yX13_orders cX13_orders 5 (some .int) : Cond) ∈ jw := jin (jt_9 _ (List.mem_of_getElem? (i := 108) rfl)) rfl
set_option maxRecDepth 100000 in
theorem m_187 : (.code yX13_owed cX13_owed 4 (some .int) : Cond) ∈ jw := jin (jt_10 _ (List.mem_of_getElem? (i := 37) rfl)) rfl
set_option maxRecDepth 100000 in
theorem m_188 : (.code yX13_page cX13_page 2 (some .int) : Cond) ∈ jw := jin (jt_10 _ (List.mem_of_getElem? (i := 9) rfl)) rfl
set_option maxRecDepth 100000 in
theorem m_189 : (.code yX13_plate cX13_plate 11 (some .int) : Cond) ∈ jw := jin (jt_9 _ (List.mem_of_getElem? (i := 44) rfl)) rfl
set_option maxRecDepth 100000 in
theorem m_190 : (.code yX13_pointer cX13_pointer 7 (some .int) : Cond) ∈ jw := jin (jt_9 _ (List.mem_of_getElem? (i := 36) rfl)) rfl
set_option maxRecDepth 100000 in
theorem m_191 : (.code yX13_points cX13_points 3 (some .boolean) : Cond) ∈ jw := jin (jt_9 _ (List.mem_of_getElem? (i := 48) rfl)) rfl
set_option maxRecDepth 100000 in
theorem m_192 : (.code yX13_promise cX13_promise 4 (some .int) : Cond) ∈ jw := jin (jt_10 _ (List.mem_of_getElem? (i := 21) rfl)) rfl
set_option maxRecDepth 100000 in
theorem m_193 : (.code yX13_promised cX13_promised 5 (some .int) : Cond) ∈ jw := jin (jt_10 _ (List.mem_of_getElem? (i := 29) rfl)) rfl
set_option maxRecDepth 100000 in
theorem m_194 : (.code yX13_push cX13_push 2 none : Cond) ∈ jw := jin (jt_8 _ (List.mem_of_getElem? (i := 168) rfl)) rfl
set_option maxRecDepth 100000 in
theorem m_195 : (.code yX13_reads cX13_reads 2 (some .int) : Cond) ∈ jw := jin (jt_8 _ (List.mem_of_getElem? (i := 146) rfl)) rfl
set_option maxRecDepth 100000 in
theorem m_196 : (.code yX13_reckoned cX13_reckoned 7 (some .int) : Cond) ∈ jw := jin (jt_9 _ (List.mem_of_getElem? (i := 75) rfl)) rfl
set_option maxRecDepth 100000 in
theorem m_197 : (.code yX13_rule cX13_rule 5 (some .int) : Cond) ∈ jw := jin (jt_9 _ (List.mem_of_getElem? (i := 8) rfl)) rfl
set_option maxRecDepth 100000 in
theorem m_198 : (.code yX13_set cX13_set 8 (some .int) : Cond) ∈ jw := jin (jt_10 _ (List.mem_of_getElem? (i := 1) rfl)) rfl
set_option maxRecDepth 100000 in
theorem m_199 : (.code yX13_sheet cX13_sheet 4 (some .int) : Cond) ∈ jw := jin (jt_8 _ (List.mem_of_getElem? (i := 237) rfl)) rfl
set_option maxRecDepth 100000 in
theorem m_200 : (.code yX13_skip cX13_skip 1 (some .boolean) : Cond) ∈ jw := jin (jt_8 _ (List.mem_of_getElem? (i := 192) rfl)) rfl
set_option maxRecDepth 100000 in
theorem m_201 : (.code yX13_stale cX13_stale 3 (some .boolean) : Cond) ∈ jw := jin (jt_9 _ (List.mem_of_getElem? (i := 201) rfl)) rfl
set_option maxRecDepth 100000 in
theorem m_202 : (.code yX13_stales cX13_stales 4 (some .int) : Cond) ∈ jw := jin (jt_9 _ (List.mem_of_getElem? (i := 217) rfl)) rfl
set_option maxRecDepth 100000 in
theorem m_203 : (.code yX13_steal cX13_steal 2 (some .int) : Cond) ∈ jw := jin (jt_10 _ (List.mem_of_getElem? (i := 77) rfl)) rfl
set_option maxRecDepth 100000 in
theorem m_204 : (.code yX13_steps cX13_steps 2 (some .boolean) : Cond) ∈ jw := jin (jt_8 _ (List.mem_of_getElem? (i := 172) rfl)) rfl
set_option maxRecDepth 100000 in
theorem m_205 : (.code yX13_strike cX13_strike 2 (some .boolean) : Cond) ∈ jw := jin (jt_9 _ (List.mem_of_getElem? (i := 92) rfl)) rfl
set_option maxRecDepth 100000 in
theorem m_206 : (.code yX13_subscribe cX13_subscribe 4 (some .boolean) : Cond) ∈ jw := jin (jt_10 _ (List.mem_of_getElem? (i := 33) rfl)) rfl
set_option maxRecDepth 100000 in
theorem m_207 : (.code yX13_takers cX13_takers 4 (some .int) : Cond) ∈ jw := jin (jt_9 _ (List.mem_of_getElem? (i := 189) rfl)) rfl
set_option maxRecDepth 100000 in
theorem m_208 : (.code yX13_takes cX13_takes 1 (some .boolean) : Cond) ∈ jw := jin (jt_8 _ (List.mem_of_getElem? (i := 184) rfl)) rfl
set_option maxRecDepth 100000 in
theorem m_209 : (.code yX13_tell cX13_tell 4 (some .boolean) : Cond) ∈ jw := jin (jt_9 _ (List.mem_of_getElem? (i := 193) rfl)) rfl
set_option maxRecDepth 100000 in
theorem m_210 : (.code yX13_tells cX13_tells 5 (some .int) : Cond) ∈ jw := jin (jt_9 _ (List.mem_of_getElem? (i := 68) rfl)) rfl
set_option maxRecDepth 100000 in
theorem m_211 : (.code yX13_thief cX13_thief 8 (some .int) : Cond) ∈ jw := jin (jt_10 _ (List.mem_of_getElem? (i := 85) rfl)) rfl
set_option maxRecDepth 100000 in
theorem m_212 : (.code yX13_told cX13_told 3 (some .int) : Cond) ∈ jw := jin (jt_9 _ (List.mem_of_getElem? (i := 237) rfl)) rfl
set_option maxRecDepth 100000 in
theorem m_213 : (.code yX13_valueOf cX13_valueOf 4 (some .int) : Cond) ∈ jw := jin (jt_9 _ (List.mem_of_getElem? (i := 173) rfl)) rfl
set_option maxRecDepth 100000 in
theorem m_214 : (.code yX13_volume cX13_volume 2 (some .int) : Cond) ∈ jw := jin (jt_9 _ (List.mem_of_getElem? (i := 52) rfl)) rfl
set_option maxRecDepth 100000 in
theorem m_215 : (.code yX13_volumeOf cX13_volumeOf 3 (some .int) : Cond) ∈ jw := jin (jt_9 _ (List.mem_of_getElem? (i := 56) rfl)) rfl
set_option maxRecDepth 100000 in
theorem m_216 : (.code yX13_way cX13_way 8 none : Cond) ∈ jw := jin (jt_10 _ (List.mem_of_getElem? (i := 65) rfl)) rfl
set_option maxRecDepth 100000 in
theorem m_217 : (.code yX13_why cX13_why 4 (some .int) : Cond) ∈ jw := jin (jt_9 _ (List.mem_of_getElem? (i := 120) rfl)) rfl
set_option maxRecDepth 100000 in
theorem m_218 : (.code yX13_without cX13_without 1 (some .int) : Cond) ∈ jw := jin (jt_9 _ (List.mem_of_getElem? (i := 71) rfl)) rfl
set_option maxRecDepth 100000 in
theorem m_219 : (.code yX13_wordAt cX13_wordAt 8 (some .int) : Cond) ∈ jw := jin (jt_8 _ (List.mem_of_getElem? (i := 157) rfl)) rfl
set_option maxRecDepth 100000 in
theorem m_220 : (.methodLink RX13 256 yX13_in : Cond) ∈ jw := jin (jt_8 _ (List.mem_of_getElem? (i := 136) rfl)) rfl
set_option maxRecDepth 100000 in
theorem m_221 : (.methodLink RX13 284 yX13_isLetter : Cond) ∈ jw := jin (jt_8 _ (List.mem_of_getElem? (i := 151) rfl)) rfl
set_option maxRecDepth 100000 in
theorem m_222 : (.methodLink RX13 288 yX13_wordAt : Cond) ∈ jw := jin (jt_8 _ (List.mem_of_getElem? (i := 154) rfl)) rfl
set_option maxRecDepth 100000 in
theorem m_223 : (.methodLink RX13 292 yX13_isDigit : Cond) ∈ jw := jin (jt_8 _ (List.mem_of_getElem? (i := 161) rfl)) rfl
set_option maxRecDepth 100000 in
theorem m_224 : (.methodLink RX13 301 yX13_next : Cond) ∈ jw := jin (jt_8 _ (List.mem_of_getElem? (i := 147) rfl)) rfl
set_option maxRecDepth 100000 in
theorem m_225 : (.methodLink RX13 307 yX13_push : Cond) ∈ jw := jin (jt_8 _ (List.mem_of_getElem? (i := 165) rfl)) rfl
set_option maxRecDepth 100000 in
theorem m_226 : (.methodLink RX13 311 yX13_emits : Cond) ∈ jw := jin (jt_8 _ (List.mem_of_getElem? (i := 173) rfl)) rfl
set_option maxRecDepth 100000 in
theorem m_227 : (.methodLink RX13 315 yX13_isSign : Cond) ∈ jw := jin (jt_8 _ (List.mem_of_getElem? (i := 177) rfl)) rfl
set_option maxRecDepth 100000 in
theorem m_228 : (.methodLink RX13 318 yX13_takes : Cond) ∈ jw := jin (jt_8 _ (List.mem_of_getElem? (i := 181) rfl)) rfl
set_option maxRecDepth 100000 in
theorem m_229 : (.methodLink RX13 322 yX13_clauses : Cond) ∈ jw := jin (jt_8 _ (List.mem_of_getElem? (i := 185) rfl)) rfl
set_option maxRecDepth 100000 in
theorem m_230 : (.methodLink RX13 325 yX13_both : Cond) ∈ jw := jin (jt_8 _ (List.mem_of_getElem? (i := 205) rfl)) rfl
set_option maxRecDepth 100000 in
theorem m_231 : (.methodLink RX13 329 yX13_more : Cond) ∈ jw := jin (jt_8 _ (List.mem_of_getElem? (i := 209) rfl)) rfl
set_option maxRecDepth 100000 in
theorem m_232 : (.methodLink RX13 333 yX13_factor : Cond) ∈ jw := jin (jt_8 _ (List.mem_of_getElem? (i := 213) rfl)) rfl
set_option maxRecDepth 100000 in
theorem m_233 : (.methodLink RX13 336 yX13_moreWords : Cond) ∈ jw := jin (jt_8 _ (List.mem_of_getElem? (i := 222) rfl)) rfl
set_option maxRecDepth 100000 in
theorem m_234 : (.methodLink RX13 340 yX13_holds : Cond) ∈ jw := jin (jt_8 _ (List.mem_of_getElem? (i := 226) rfl)) rfl
set_option maxRecDepth 100000 in
theorem m_235 : (.methodLink RX13 343 yX13_compares : Cond) ∈ jw := jin (jt_8 _ (List.mem_of_getElem? (i := 230) rfl)) rfl
set_option maxRecDepth 100000 in
theorem m_236 : (.methodLink RX13 349 yX13_isWord : Cond) ∈ jw := jin (jt_8 _ (List.mem_of_getElem? (i := 197) rfl)) rfl
set_option maxRecDepth 100000 in
theorem m_237 : (.methodLink RX13 352 yX13_skip : Cond) ∈ jw := jin (jt_8 _ (List.mem_of_getElem? (i := 189) rfl)) rfl
set_option maxRecDepth 100000 in
theorem m_238 : (.methodLink RX13 355 yX13_choice : Cond) ∈ jw := jin (jt_8 _ (List.mem_of_getElem? (i := 193) rfl)) rfl
set_option maxRecDepth 100000 in
theorem m_239 : (.methodLink RX13 358 yX13_begins : Cond) ∈ jw := jin (jt_8 _ (List.mem_of_getElem? (i := 201) rfl)) rfl
set_option maxRecDepth 100000 in
theorem m_240 : (.methodLink RX13 365 yX13_deeper : Cond) ∈ jw := jin (jt_8 _ (List.mem_of_getElem? (i := 218) rfl)) rfl
set_option maxRecDepth 100000 in
theorem m_241 : (.methodLink RX13 368 yX13_steps : Cond) ∈ jw := jin (jt_8 _ (List.mem_of_getElem? (i := 169) rfl)) rfl
set_option maxRecDepth 100000 in
theorem m_242 : (.methodLink RX13 371 yX13_reads : Cond) ∈ jw := jin (jt_8 _ (List.mem_of_getElem? (i := 143) rfl)) rfl
set_option maxRecDepth 100000 in
theorem m_243 : (.methodLink RX13 377 yX13_isVolume : Cond) ∈ jw := jin (jt_9 _ (List.mem_of_getElem? (i := 2) rfl)) rfl
set_option maxRecDepth 100000 in
theorem m_244 : (.methodLink RX13 386 yX13_inForce : Cond) ∈ jw := jin (jt_9 _ (List.mem_of_getElem? (i := 9) rfl)) rfl
set_option maxRecDepth 100000 in
theorem m_245 : (.methodLink RX13 390 yX13_of : Cond) ∈ jw := jin (jt_9 _ (List.mem_of_getElem? (i := 76) rfl)) rfl
set_option maxRecDepth 100000 in
theorem m_246 : (.methodLink RX13 393 yX13_near : Cond) ∈ jw := jin (jt_9 _ (List.mem_of_getElem? (i := 79) rfl)) rfl
set_option maxRecDepth 100000 in
theorem m_247 : (.methodLink RX13 397 yX13_without : Cond) ∈ jw := jin (jt_9 _ (List.mem_of_getElem? (i := 69) rfl)) rfl
set_option maxRecDepth 100000 in
theorem m_248 : (.methodLink RX13 401 yX13_reckoned : Cond) ∈ jw := jin (jt_9 _ (List.mem_of_getElem? (i := 72) rfl)) rfl
set_option maxRecDepth 100000 in
theorem m_249 : (.methodLink RX13 404 yX13_tells : Cond) ∈ jw := jin (jt_9 _ (List.mem_of_getElem? (i := 65) rfl)) rfl
set_option maxRecDepth 100000 in
theorem m_250 : (.methodLink RX13 407 yX13_isSkipped : Cond) ∈ jw := jin (jt_9 _ (List.mem_of_getElem? (i := 85) rfl)) rfl
set_option maxRecDepth 100000 in
theorem m_251 : (.methodLink RX13 410 yX13_key : Cond) ∈ jw := jin (jt_9 _ (List.mem_of_getElem? (i := 61) rfl)) rfl
set_option maxRecDepth 100000 in
theorem m_252 : (.methodLink RX13 414 yX13_compared : Cond) ∈ jw := jin (jt_9 _ (List.mem_of_getElem? (i := 113) rfl)) rfl
set_option maxRecDepth 100000 in
theorem m_253 : (.methodLink RX13 421 yX13_isEntry : Cond) ∈ jw := jin (jt_9 _ (List.mem_of_getElem? (i := 37) rfl)) rfl
set_option maxRecDepth 100000 in
theorem m_254 : (.methodLink RX13 424 yX13_headingOf : Cond) ∈ jw := jin (jt_9 _ (List.mem_of_getElem? (i := 25) rfl)) rfl
set_option maxRecDepth 100000 in
theorem m_255 : (.methodLink RX13 427 yX13_newEntry : Cond) ∈ jw := jin (jt_9 _ (List.mem_of_getElem? (i := 29) rfl)) rfl
set_option maxRecDepth 100000 in
theorem m_256 : (.methodLink RX13 430 yX13_byKey : Cond) ∈ jw := jin (jt_9 _ (List.mem_of_getElem? (i := 57) rfl)) rfl
set_option maxRecDepth 100000 in
theorem m_257 : (.methodLink RX13 433 yX13_volumeOf : Cond) ∈ jw := jin (jt_9 _ (List.mem_of_getElem? (i := 53) rfl)) rfl
set_option maxRecDepth 100000 in
theorem m_258 : (.methodLink RX13 436 yX13_canGo : Cond) ∈ jw := jin (jt_9 _ (List.mem_of_getElem? (i := 93) rfl)) rfl
set_option maxRecDepth 100000 in
theorem m_259 : (.methodLink RX13 439 yX13_isAhead : Cond) ∈ jw := jin (jt_9 _ (List.mem_of_getElem? (i := 109) rfl)) rfl
set_option maxRecDepth 100000 in
theorem m_260 : (.methodLink RX13 442 yX13_orders : Cond) ∈ jw := jin (jt_9 _ (List.mem_of_getElem? (i := 105) rfl)) rfl
set_option maxRecDepth 100000 in
theorem m_261 : (.methodLink RX13 449 yX13_isHand : Cond) ∈ jw := jin (jt_9 _ (List.mem_of_getElem? (i := 130) rfl)) rfl
set_option maxRecDepth 100000 in
theorem m_262 : (.methodLink RX13 455 yX13_linesOf : Cond) ∈ jw := jin (jt_9 _ (List.mem_of_getElem? (i := 150) rfl)) rfl
set_option maxRecDepth 100000 in
theorem m_263 : (.methodLink RX13 458 yX13_isDone : Cond) ∈ jw := jin (jt_9 _ (List.mem_of_getElem? (i := 146) rfl)) rfl
set_option maxRecDepth 100000 in
theorem m_264 : (.methodLink RX13 461 yX13_factsOf : Cond) ∈ jw := jin (jt_9 _ (List.mem_of_getElem? (i := 158) rfl)) rfl
set_option maxRecDepth 100000 in
theorem m_265 : (.methodLink RX13 464 yX13_lateOf : Cond) ∈ jw := jin (jt_9 _ (List.mem_of_getElem? (i := 162) rfl)) rfl
set_option maxRecDepth 100000 in
theorem m_266 : (.methodLink RX13 467 yX13_isArticle : Cond) ∈ jw := jin (jt_9 _ (List.mem_of_getElem? (i := 142) rfl)) rfl
set_option maxRecDepth 100000 in
theorem m_267 : (.methodLink RX13 470 yX13_asks : Cond) ∈ jw := jin (jt_9 _ (List.mem_of_getElem? (i := 154) rfl)) rfl
set_option maxRecDepth 100000 in
theorem m_268 : (.methodLink RX13 473 yX13_mayBeGiven : Cond) ∈ jw := jin (jt_9 _ (List.mem_of_getElem? (i := 138) rfl)) rfl
set_option maxRecDepth 100000 in
theorem m_269 : (.methodLink RX13 479 yX13_knownOf : Cond) ∈ jw := jin (jt_9 _ (List.mem_of_getElem? (i := 174) rfl)) rfl
set_option maxRecDepth 100000 in
theorem m_270 : (.methodLink RX13 482 yX13_valueOf : Cond) ∈ jw := jin (jt_9 _ (List.mem_of_getElem? (i := 170) rfl)) rfl
set_option maxRecDepth 100000 in
theorem m_271 : (.methodLink RX13 485 yX13_hangs : Cond) ∈ jw := jin (jt_9 _ (List.mem_of_getElem? (i := 182) rfl)) rfl
set_option maxRecDepth 100000 in
theorem m_272 : (.methodLink RX13 494 yX13_keeps : Cond) ∈ jw := jin (jt_9 _ (List.mem_of_getElem? (i := 210) rfl)) rfl
set_option maxRecDepth 100000 in
theorem m_273 : (.methodLink RX13 497 yX13_isLine : Cond) ∈ jw := jin (jt_9 _ (List.mem_of_getElem? (i := 202) rfl)) rfl
set_option maxRecDepth 100000 in
theorem m_274 : (.methodLink RX13 500 yX13_isStale : Cond) ∈ jw := jin (jt_9 _ (List.mem_of_getElem? (i := 206) rfl)) rfl
set_option maxRecDepth 100000 in
theorem m_275 : (.methodLink RX13 503 yX13_isSetLine : Cond) ∈ jw := jin (jt_9 _ (List.mem_of_getElem? (i := 222) rfl)) rfl
set_option maxRecDepth 100000 in
theorem m_276 : (.methodLink RX13 506 yX13_canBeSet : Cond) ∈ jw := jin (jt_10 _ (List.mem_of_getElem? (i := 2) rfl)) rfl
set_option maxRecDepth 100000 in
theorem m_277 : (.methodLink RX13 509 yX13_endOf : Cond) ∈ jw := jin (jt_10 _ (List.mem_of_getElem? (i := 14) rfl)) rfl
set_option maxRecDepth 100000 in
theorem m_278 : (.methodLink RX13 512 yX13_isGone : Cond) ∈ jw := jin (jt_10 _ (List.mem_of_getElem? (i := 22) rfl)) rfl
set_option maxRecDepth 100000 in
theorem m_279 : (.methodLink RX13 518 yX13_bounded : Cond) ∈ jw := jin (jt_10 _ (List.mem_of_getElem? (i := 46) rfl)) rfl
set_option maxRecDepth 100000 in
theorem m_280 : (.methodLink RX13 521 yX13_bringsTo : Cond) ∈ jw := jin (jt_10 _ (List.mem_of_getElem? (i := 42) rfl)) rfl
set_option maxRecDepth 100000 in
theorem m_281 : (.methodLink RX13 534 yX13_way : Cond) ∈ jw := jin (jt_10 _ (List.mem_of_getElem? (i := 62) rfl)) rfl
set_option maxRecDepth 100000 in
theorem m_282 : (.methodLink RX13 543 yX13_gives : Cond) ∈ jw := jin (jt_10 _ (List.mem_of_getElem? (i := 57) rfl)) rfl
set_option maxRecDepth 100000 in
theorem m_283 : (.methodLink RX13 549 yX13_laysOn : Cond) ∈ jw := jin (jt_10 _ (List.mem_of_getElem? (i := 86) rfl)) rfl
set_option maxRecDepth 100000 in
theorem m_284 : (.methodLink RX13 553 yX13_better : Cond) ∈ jw := jin (jt_10 _ (List.mem_of_getElem? (i := 90) rfl)) rfl
set_option maxRecDepth 100000 in
theorem m_285 : (.instanceMethod yX13_article : Cond) ∈ jw := jin (jt_9 _ (List.mem_of_getElem? (i := 22) rfl)) rfl
set_option maxRecDepth 100000 in
theorem m_286 : (.selects RX13 yX13_article yX13_article : Cond) ∈ jw := jin (jt_9 _ (List.mem_of_getElem? (i := 23) rfl)) rfl
set_option maxRecDepth 100000 in
theorem m_287 : (.instanceMethod yX13_asks : Cond) ∈ jw := jin (jt_9 _ (List.mem_of_getElem? (i := 156) rfl)) rfl
set_option maxRecDepth 100000 in
theorem m_288 : (.selects RX13 yX13_asks yX13_asks : Cond) ∈ jw := jin (jt_p _ (List.mem_of_getElem? (i := 126) rfl)) rfl
set_option maxRecDepth 100000 in
theorem m_289 : (.instanceMethod yX13_at : Cond) ∈ jw := jin (jt_9 _ (List.mem_of_getElem? (i := 102) rfl)) rfl
set_option maxRecDepth 100000 in
theorem m_290 : (.selects RX13 yX13_at yX13_at : Cond) ∈ jw := jin (jt_9 _ (List.mem_of_getElem? (i := 103) rfl)) rfl
set_option maxRecDepth 100000 in
theorem m_291 : (.instanceMethod yX13_begins : Cond) ∈ jw := jin (jt_8 _ (List.mem_of_getElem? (i := 203) rfl)) rfl
set_option maxRecDepth 100000 in
theorem m_292 : (.selects RX13 yX13_begins yX13_begins : Cond) ∈ jw := jin (jt_p _ (List.mem_of_getElem? (i := 99) rfl)) rfl
set_option maxRecDepth 100000 in
theorem m_293 : (.instanceMethod yX13_better : Cond) ∈ jw := jin (jt_10 _ (List.mem_of_getElem? (i := 92) rfl)) rfl
set_option maxRecDepth 100000 in
theorem m_294 : (.selects RX13 yX13_better yX13_better : Cond) ∈ jw := jin (jt_p _ (List.mem_of_getElem? (i := 143) rfl)) rfl
set_option maxRecDepth 100000 in
theorem m_295 : (.instanceMethod yX13_both : Cond) ∈ jw := jin (jt_8 _ (List.mem_of_getElem? (i := 207) rfl)) rfl
set_option maxRecDepth 100000 in
theorem m_296 : (.selects RX13 yX13_both yX13_both : Cond) ∈ jw := jin (jt_p _ (List.mem_of_getElem? (i := 100) rfl)) rfl
set_option maxRecDepth 100000 in
theorem m_297 : (.instanceMethod yX13_bound : Cond) ∈ jw := jin (jt_9 _ (List.mem_of_getElem? (i := 18) rfl)) rfl
set_option maxRecDepth 100000 in
theorem m_298 : (.selects RX13 yX13_bound yX13_bound : Cond) ∈ jw := jin (jt_9 _ (List.mem_of_getElem? (i := 19) rfl)) rfl
set_option maxRecDepth 100000 in
theorem m_299 : (.static yX13_bounded : Cond) ∈ jw := jin (jt_10 _ (List.mem_of_getElem? (i := 47) rfl)) rfl
set_option maxRecDepth 100000 in
theorem m_300 : (.instanceMethod yX13_bringsTo : Cond) ∈ jw := jin (jt_10 _ (List.mem_of_getElem? (i := 44) rfl)) rfl
set_option maxRecDepth 100000 in
theorem m_301 : (.selects RX13 yX13_bringsTo yX13_bringsTo : Cond) ∈ jw := jin (jt_p _ (List.mem_of_getElem? (i := 139) rfl)) rfl
set_option maxRecDepth 100000 in
theorem m_302 : (.instanceMethod yX13_byKey : Cond) ∈ jw := jin (jt_9 _ (List.mem_of_getElem? (i := 59) rfl)) rfl
set_option maxRecDepth 100000 in
theorem m_303 : (.selects RX13 yX13_byKey yX13_byKey : Cond) ∈ jw := jin (jt_p _ (List.mem_of_getElem? (i := 112) rfl)) rfl
set_option maxRecDepth 100000 in
theorem m_304 : (.instanceMethod yX13_canBeSet : Cond) ∈ jw := jin (jt_10 _ (List.mem_of_getElem? (i := 4) rfl)) rfl
set_option maxRecDepth 100000 in
theorem m_305 : (.selects RX13 yX13_canBeSet yX13_canBeSet : Cond) ∈ jw := jin (jt_p _ (List.mem_of_getElem? (i := 136) rfl)) rfl
set_option maxRecDepth 100000 in
theorem m_306 : (.instanceMethod yX13_canGo : Cond) ∈ jw := jin (jt_9 _ (List.mem_of_getElem? (i := 95) rfl)) rfl
set_option maxRecDepth 100000 in
theorem m_307 : (.selects RX13 yX13_canGo yX13_canGo : Cond) ∈ jw := jin (jt_p _ (List.mem_of_getElem? (i := 117) rfl)) rfl
set_option maxRecDepth 100000 in
theorem m_308 : (.instanceMethod yX13_choice : Cond) ∈ jw := jin (jt_8 _ (List.mem_of_getElem? (i := 195) rfl)) rfl
set_option maxRecDepth 100000 in
theorem m_309 : (.selects RX13 yX13_choice yX13_choice : Cond) ∈ jw := jin (jt_p _ (List.mem_of_getElem? (i := 97) rfl)) rfl
set_option maxRecDepth 100000 in
theorem m_310 : (.instanceMethod yX13_clauses : Cond) ∈ jw := jin (jt_8 _ (List.mem_of_getElem? (i := 187) rfl)) rfl
set_option maxRecDepth 100000 in
theorem m_311 : (.selects RX13 yX13_clauses yX13_clauses : Cond) ∈ jw := jin (jt_p _ (List.mem_of_getElem? (i := 95) rfl)) rfl
set_option maxRecDepth 100000 in
theorem m_312 : (.instanceMethod yX13_compared : Cond) ∈ jw := jin (jt_9 _ (List.mem_of_getElem? (i := 115) rfl)) rfl
set_option maxRecDepth 100000 in
theorem m_313 : (.selects RX13 yX13_compared yX13_compared : Cond) ∈ jw := jin (jt_p _ (List.mem_of_getElem? (i := 120) rfl)) rfl
set_option maxRecDepth 100000 in
theorem m_314 : (.instanceMethod yX13_compares : Cond) ∈ jw := jin (jt_8 _ (List.mem_of_getElem? (i := 232) rfl)) rfl
set_option maxRecDepth 100000 in
theorem m_315 : (.selects RX13 yX13_compares yX13_compares : Cond) ∈ jw := jin (jt_p _ (List.mem_of_getElem? (i := 106) rfl)) rfl
set_option maxRecDepth 100000 in
theorem m_316 : (.instanceMethod yX13_count : Cond) ∈ jw := jin (jt_10 _ (List.mem_of_getElem? (i := 99) rfl)) rfl
set_option maxRecDepth 100000 in
theorem m_317 : (.selects RX13 yX13_count yX13_count : Cond) ∈ jw := jin (jt_10 _ (List.mem_of_getElem? (i := 100) rfl)) rfl
set_option maxRecDepth 100000 in
theorem m_318 : (.instanceMethod yX13_deeper : Cond) ∈ jw := jin (jt_8 _ (List.mem_of_getElem? (i := 220) rfl)) rfl
set_option maxRecDepth 100000 in
theorem m_319 : (.selects RX13 yX13_deeper yX13_deeper : Cond) ∈ jw := jin (jt_p _ (List.mem_of_getElem? (i := 103) rfl)) rfl
set_option maxRecDepth 100000 in
theorem m_320 : (.instanceMethod yX13_die : Cond) ∈ jw := jin (jt_9 _ (List.mem_of_getElem? (i := 179) rfl)) rfl
set_option maxRecDepth 100000 in
theorem m_321 : (.selects RX13 yX13_die yX13_die : Cond) ∈ jw := jin (jt_9 _ (List.mem_of_getElem? (i := 180) rfl)) rfl
set_option maxRecDepth 100000 in
theorem m_322 : (.instanceMethod yX13_emits : Cond) ∈ jw := jin (jt_8 _ (List.mem_of_getElem? (i := 175) rfl)) rfl
set_option maxRecDepth 100000 in
theorem m_323 : (.selects RX13 yX13_emits yX13_emits : Cond) ∈ jw := jin (jt_p _ (List.mem_of_getElem? (i := 92) rfl)) rfl
set_option maxRecDepth 100000 in
theorem m_324 : (.instanceMethod yX13_end : Cond) ∈ jw := jin (jt_8 _ (List.mem_of_getElem? (i := 133) rfl)) rfl
set_option maxRecDepth 100000 in
theorem m_325 : (.selects RX13 yX13_end yX13_end : Cond) ∈ jw := jin (jt_8 _ (List.mem_of_getElem? (i := 134) rfl)) rfl
set_option maxRecDepth 100000 in
theorem m_326 : (.instanceMethod yX13_endOf : Cond) ∈ jw := jin (jt_10 _ (List.mem_of_getElem? (i := 16) rfl)) rfl
set_option maxRecDepth 100000 in
theorem m_327 : (.selects RX13 yX13_endOf yX13_endOf : Cond) ∈ jw := jin (jt_p _ (List.mem_of_getElem? (i := 137) rfl)) rfl
set_option maxRecDepth 100000 in
theorem m_328 : (.instanceMethod yX13_ends : Cond) ∈ jw := jin (jt_10 _ (List.mem_of_getElem? (i := 11) rfl)) rfl
set_option maxRecDepth 100000 in
theorem m_329 : (.selects RX13 yX13_ends yX13_ends : Cond) ∈ jw := jin (jt_10 _ (List.mem_of_getElem? (i := 12) rfl)) rfl
set_option maxRecDepth 100000 in
theorem m_330 : (.instanceMethod yX13_enemies : Cond) ∈ jw := jin (jt_9 _ (List.mem_of_getElem? (i := 127) rfl)) rfl
set_option maxRecDepth 100000 in
theorem m_331 : (.selects RX13 yX13_enemies yX13_enemies : Cond) ∈ jw := jin (jt_9 _ (List.mem_of_getElem? (i := 128) rfl)) rfl
set_option maxRecDepth 100000 in
theorem m_332 : (.instanceMethod yX13_erratum : Cond) ∈ jw := jin (jt_9 _ (List.mem_of_getElem? (i := 227) rfl)) rfl
set_option maxRecDepth 100000 in
theorem m_333 : (.selects RX13 yX13_erratum yX13_erratum : Cond) ∈ jw := jin (jt_9 _ (List.mem_of_getElem? (i := 228) rfl)) rfl
set_option maxRecDepth 100000 in
theorem m_334 : (.instanceMethod yX13_factor : Cond) ∈ jw := jin (jt_8 _ (List.mem_of_getElem? (i := 215) rfl)) rfl
set_option maxRecDepth 100000 in
theorem m_335 : (.selects RX13 yX13_factor yX13_factor : Cond) ∈ jw := jin (jt_p _ (List.mem_of_getElem? (i := 102) rfl)) rfl
set_option maxRecDepth 100000 in
theorem m_336 : (.instanceMethod yX13_factsOf : Cond) ∈ jw := jin (jt_9 _ (List.mem_of_getElem? (i := 160) rfl)) rfl
set_option maxRecDepth 100000 in
theorem m_337 : (.selects RX13 yX13_factsOf yX13_factsOf : Cond) ∈ jw := jin (jt_p _ (List.mem_of_getElem? (i := 127) rfl)) rfl
set_option maxRecDepth 100000 in
theorem m_338 : (.instanceMethod yX13_fault : Cond) ∈ jw := jin (jt_8 _ (List.mem_of_getElem? (i := 140) rfl)) rfl
set_option maxRecDepth 100000 in
theorem m_339 : (.selects RX13 yX13_fault yX13_fault : Cond) ∈ jw := jin (jt_8 _ (List.mem_of_getElem? (i := 141) rfl)) rfl
set_option maxRecDepth 100000 in
theorem m_340 : (.instanceMethod yX13_feed : Cond) ∈ jw := jin (jt_8 _ (List.mem_of_getElem? (i := 129) rfl)) rfl
set_option maxRecDepth 100000 in
theorem m_341 : (.selects RX13 yX13_feed yX13_feed : Cond) ∈ jw := jin (jt_8 _ (List.mem_of_getElem? (i := 130) rfl)) rfl
set_option maxRecDepth 100000 in
theorem m_342 : (.instanceMethod yX13_force : Cond) ∈ jw := jin (jt_8 _ (List.mem_of_getElem? (i := 239) rfl)) rfl
set_option maxRecDepth 100000 in
theorem m_343 : (.selects RX13 yX13_force yX13_force : Cond) ∈ jw := jin (jt_9 _ (List.mem_of_getElem? (i := 0) rfl)) rfl
set_option maxRecDepth 100000 in
theorem m_344 : (.instanceMethod yX13_forget : Cond) ∈ jw := jin (jt_10 _ (List.mem_of_getElem? (i := 79) rfl)) rfl
set_option maxRecDepth 100000 in
theorem m_345 : (.selects RX13 yX13_forget yX13_forget : Cond) ∈ jw := jin (jt_10 _ (List.mem_of_getElem? (i := 80) rfl)) rfl
set_option maxRecDepth 100000 in
theorem m_346 : (.instanceMethod yX13_give : Cond) ∈ jw := jin (jt_9 _ (List.mem_of_getElem? (i := 135) rfl)) rfl
set_option maxRecDepth 100000 in
theorem m_347 : (.selects RX13 yX13_give yX13_give : Cond) ∈ jw := jin (jt_9 _ (List.mem_of_getElem? (i := 136) rfl)) rfl
set_option maxRecDepth 100000 in
theorem m_348 : (.instanceMethod yX13_given : Cond) ∈ jw := jin (jt_10 _ (List.mem_of_getElem? (i := 67) rfl)) rfl
set_option maxRecDepth 100000 in
theorem m_349 : (.selects RX13 yX13_given yX13_given : Cond) ∈ jw := jin (jt_10 _ (List.mem_of_getElem? (i := 68) rfl)) rfl
set_option maxRecDepth 100000 in
theorem m_350 : (.instanceMethod yX13_gives : Cond) ∈ jw := jin (jt_10 _ (List.mem_of_getElem? (i := 59) rfl)) rfl
set_option maxRecDepth 100000 in
theorem m_351 : (.selects RX13 yX13_gives yX13_gives : Cond) ∈ jw := jin (jt_p _ (List.mem_of_getElem? (i := 140) rfl)) rfl
set_option maxRecDepth 100000 in
theorem m_352 : (.instanceMethod yX13_giving : Cond) ∈ jw := jin (jt_10 _ (List.mem_of_getElem? (i := 54) rfl)) rfl
set_option maxRecDepth 100000 in
theorem m_353 : (.selects RX13 yX13_giving yX13_giving : Cond) ∈ jw := jin (jt_10 _ (List.mem_of_getElem? (i := 55) rfl)) rfl
set_option maxRecDepth 100000 in
theorem m_354 : (.instanceMethod yX13_go : Cond) ∈ jw := jin (jt_9 _ (List.mem_of_getElem? (i := 14) rfl)) rfl
set_option maxRecDepth 100000 in
theorem m_355 : (.selects RX13 yX13_go yX13_go : Cond) ∈ jw := jin (jt_9 _ (List.mem_of_getElem? (i := 15) rfl)) rfl
set_option maxRecDepth 100000 in
theorem m_356 : (.instanceMethod yX13_hand : Cond) ∈ jw := jin (jt_9 _ (List.mem_of_getElem? (i := 122) rfl)) rfl
set_option maxRecDepth 100000 in
theorem m_357 : (.selects RX13 yX13_hand yX13_hand : Cond) ∈ jw := jin (jt_9 _ (List.mem_of_getElem? (i := 123) rfl)) rfl
set_option maxRecDepth 100000 in
theorem m_358 : (.instanceMethod yX13_hangs : Cond) ∈ jw := jin (jt_9 _ (List.mem_of_getElem? (i := 184) rfl)) rfl
set_option maxRecDepth 100000 in
theorem m_359 : (.selects RX13 yX13_hangs yX13_hangs : Cond) ∈ jw := jin (jt_p _ (List.mem_of_getElem? (i := 131) rfl)) rfl
set_option maxRecDepth 100000 in
theorem m_360 : (.instanceMethod yX13_headingOf : Cond) ∈ jw := jin (jt_9 _ (List.mem_of_getElem? (i := 27) rfl)) rfl
set_option maxRecDepth 100000 in
theorem m_361 : (.selects RX13 yX13_headingOf yX13_headingOf : Cond) ∈ jw := jin (jt_p _ (List.mem_of_getElem? (i := 108) rfl)) rfl
set_option maxRecDepth 100000 in
theorem m_362 : (.instanceMethod yX13_holds : Cond) ∈ jw := jin (jt_8 _ (List.mem_of_getElem? (i := 228) rfl)) rfl
set_option maxRecDepth 100000 in
theorem m_363 : (.selects RX13 yX13_holds yX13_holds : Cond) ∈ jw := jin (jt_p _ (List.mem_of_getElem? (i := 105) rfl)) rfl
set_option maxRecDepth 100000 in
theorem m_364 : (.static yX13_in : Cond) ∈ jw := jin (jt_8 _ (List.mem_of_getElem? (i := 137) rfl)) rfl
set_option maxRecDepth 100000 in
theorem m_365 : (.instanceMethod yX13_inForce : Cond) ∈ jw := jin (jt_9 _ (List.mem_of_getElem? (i := 11) rfl)) rfl
set_option maxRecDepth 100000 in
theorem m_366 : (.selects RX13 yX13_inForce yX13_inForce : Cond) ∈ jw := jin (jt_p _ (List.mem_of_getElem? (i := 107) rfl)) rfl
set_option maxRecDepth 100000 in
theorem m_367 : (.instanceMethod yX13_index : Cond) ∈ jw := jin (jt_10 _ (List.mem_of_getElem? (i := 71) rfl)) rfl
set_option maxRecDepth 100000 in
theorem m_368 : (.selects RX13 yX13_index yX13_index : Cond) ∈ jw := jin (jt_10 _ (List.mem_of_getElem? (i := 72) rfl)) rfl
set_option maxRecDepth 100000 in
theorem m_369 : (.instanceMethod yX13_is : Cond) ∈ jw := jin (jt_10 _ (List.mem_of_getElem? (i := 95) rfl)) rfl
set_option maxRecDepth 100000 in
theorem m_370 : (.selects RX13 yX13_is yX13_is : Cond) ∈ jw := jin (jt_10 _ (List.mem_of_getElem? (i := 96) rfl)) rfl
set_option maxRecDepth 100000 in
theorem m_371 : (.instanceMethod yX13_isAhead : Cond) ∈ jw := jin (jt_9 _ (List.mem_of_getElem? (i := 111) rfl)) rfl
set_option maxRecDepth 100000 in
theorem m_372 : (.selects RX13 yX13_isAhead yX13_isAhead : Cond) ∈ jw := jin (jt_p _ (List.mem_of_getElem? (i := 119) rfl)) rfl
set_option maxRecDepth 100000 in
theorem m_373 : (.instanceMethod yX13_isArticle : Cond) ∈ jw := jin (jt_9 _ (List.mem_of_getElem? (i := 144) rfl)) rfl
set_option maxRecDepth 100000 in
theorem m_374 : (.selects RX13 yX13_isArticle yX13_isArticle : Cond) ∈ jw := jin (jt_p _ (List.mem_of_getElem? (i := 123) rfl)) rfl
set_option maxRecDepth 100000 in
theorem m_375 : (.static yX13_isDigit : Cond) ∈ jw := jin (jt_8 _ (List.mem_of_getElem? (i := 162) rfl)) rfl
set_option maxRecDepth 100000 in
theorem m_376 : (.instanceMethod yX13_isDone : Cond) ∈ jw := jin (jt_9 _ (List.mem_of_getElem? (i := 148) rfl)) rfl
set_option maxRecDepth 100000 in
theorem m_377 : (.selects RX13 yX13_isDone yX13_isDone : Cond) ∈ jw := jin (jt_p _ (List.mem_of_getElem? (i := 124) rfl)) rfl
set_option maxRecDepth 100000 in
theorem m_378 : (.instanceMethod yX13_isEntry : Cond) ∈ jw := jin (jt_9 _ (List.mem_of_getElem? (i := 39) rfl)) rfl
set_option maxRecDepth 100000 in
theorem m_379 : (.selects RX13 yX13_isEntry yX13_isEntry : Cond) ∈ jw := jin (jt_p _ (List.mem_of_getElem? (i := 110) rfl)) rfl
set_option maxRecDepth 100000 in
theorem m_380 : (.instanceMethod yX13_isGone : Cond) ∈ jw := jin (jt_10 _ (List.mem_of_getElem? (i := 24) rfl)) rfl
set_option maxRecDepth 100000 in
theorem m_381 : (.selects RX13 yX13_isGone yX13_isGone : Cond) ∈ jw := jin (jt_p _ (List.mem_of_getElem? (i := 138) rfl)) rfl
set_option maxRecDepth 100000 in
theorem m_382 : (.instanceMethod yX13_isHand : Cond) ∈ jw := jin (jt_9 _ (List.mem_of_getElem? (i := 132) rfl)) rfl
set_option maxRecDepth 100000 in
theorem m_383 : (.selects RX13 yX13_isHand yX13_isHand : Cond) ∈ jw := jin (jt_p _ (List.mem_of_getElem? (i := 121) rfl)) rfl
set_option maxRecDepth 100000 in
theorem m_384 : (.static yX13_isLetter : Cond) ∈ jw := jin (jt_8 _ (List.mem_of_getElem? (i := 152) rfl)) rfl
set_option maxRecDepth 100000 in
theorem m_385 : (.instanceMethod yX13_isLine : Cond) ∈ jw := jin (jt_9 _ (List.mem_of_getElem? (i := 204) rfl)) rfl
set_option maxRecDepth 100000 in
theorem m_386 : (.selects RX13 yX13_isLine yX13_isLine : Cond) ∈ jw := jin (jt_p _ (List.mem_of_getElem? (i := 132) rfl)) rfl
set_option maxRecDepth 100000 in
theorem m_387 : (.instanceMethod yX13_isSetLine : Cond) ∈ jw := jin (jt_9 _ (List.mem_of_getElem? (i := 224) rfl)) rfl
set_option maxRecDepth 100000 in
theorem m_388 : (.selects RX13 yX13_isSetLine yX13_isSetLine : Cond) ∈ jw := jin (jt_p _ (List.mem_of_getElem? (i := 135) rfl)) rfl
set_option maxRecDepth 100000 in
theorem m_389 : (.instanceMethod yX13_isSign : Cond) ∈ jw := jin (jt_8 _ (List.mem_of_getElem? (i := 179) rfl)) rfl
set_option maxRecDepth 100000 in
theorem m_390 : (.selects RX13 yX13_isSign yX13_isSign : Cond) ∈ jw := jin (jt_p _ (List.mem_of_getElem? (i := 93) rfl)) rfl
set_option maxRecDepth 100000 in
theorem m_391 : (.instanceMethod yX13_isSkipped : Cond) ∈ jw := jin (jt_9 _ (List.mem_of_getElem? (i := 87) rfl)) rfl
set_option maxRecDepth 100000 in
theorem m_392 : (.selects RX13 yX13_isSkipped yX13_isSkipped : Cond) ∈ jw := jin (jt_p _ (List.mem_of_getElem? (i := 116) rfl)) rfl
set_option maxRecDepth 100000 in
theorem m_393 : (.instanceMethod yX13_isStale : Cond) ∈ jw := jin (jt_9 _ (List.mem_of_getElem? (i := 208) rfl)) rfl
set_option maxRecDepth 100000 in
theorem m_394 : (.selects RX13 yX13_isStale yX13_isStale : Cond) ∈ jw := jin (jt_p _ (List.mem_of_getElem? (i := 133) rfl)) rfl
set_option maxRecDepth 100000 in
theorem m_395 : (.static yX13_isVolume : Cond) ∈ jw := jin (jt_9 _ (List.mem_of_getElem? (i := 3) rfl)) rfl
set_option maxRecDepth 100000 in
theorem m_396 : (.instanceMethod yX13_isWord : Cond) ∈ jw := jin (jt_8 _ (List.mem_of_getElem? (i := 199) rfl)) rfl
set_option maxRecDepth 100000 in
theorem m_397 : (.selects RX13 yX13_isWord yX13_isWord : Cond) ∈ jw := jin (jt_p _ (List.mem_of_getElem? (i := 98) rfl)) rfl
set_option maxRecDepth 100000 in
theorem m_398 : (.instanceMethod yX13_keeps : Cond) ∈ jw := jin (jt_9 _ (List.mem_of_getElem? (i := 212) rfl)) rfl
set_option maxRecDepth 100000 in
theorem m_399 : (.selects RX13 yX13_keeps yX13_keeps : Cond) ∈ jw := jin (jt_p _ (List.mem_of_getElem? (i := 134) rfl)) rfl
set_option maxRecDepth 100000 in
theorem m_400 : (.instanceMethod yX13_key : Cond) ∈ jw := jin (jt_9 _ (List.mem_of_getElem? (i := 63) rfl)) rfl
set_option maxRecDepth 100000 in
theorem m_401 : (.selects RX13 yX13_key yX13_key : Cond) ∈ jw := jin (jt_p _ (List.mem_of_getElem? (i := 113) rfl)) rfl
set_option maxRecDepth 100000 in
theorem m_402 : (.instanceMethod yX13_known : Cond) ∈ jw := jin (jt_9 _ (List.mem_of_getElem? (i := 195) rfl)) rfl
set_option maxRecDepth 100000 in
theorem m_403 : (.selects RX13 yX13_known yX13_known : Cond) ∈ jw := jin (jt_9 _ (List.mem_of_getElem? (i := 196) rfl)) rfl
set_option maxRecDepth 100000 in
theorem m_404 : (.instanceMethod yX13_knownOf : Cond) ∈ jw := jin (jt_9 _ (List.mem_of_getElem? (i := 176) rfl)) rfl
set_option maxRecDepth 100000 in
theorem m_405 : (.selects RX13 yX13_knownOf yX13_knownOf : Cond) ∈ jw := jin (jt_p _ (List.mem_of_getElem? (i := 130) rfl)) rfl
set_option maxRecDepth 100000 in
theorem m_406 : (.instanceMethod yX13_lateOf : Cond) ∈ jw := jin (jt_9 _ (List.mem_of_getElem? (i := 164) rfl)) rfl
set_option maxRecDepth 100000 in
theorem m_407 : (.selects RX13 yX13_lateOf yX13_lateOf : Cond) ∈ jw := jin (jt_p _ (List.mem_of_getElem? (i := 128) rfl)) rfl
set_option maxRecDepth 100000 in
theorem m_408 : (.instanceMethod yX13_later : Cond) ∈ jw := jin (jt_9 _ (List.mem_of_getElem? (i := 98) rfl)) rfl
set_option maxRecDepth 100000 in
theorem m_409 : (.selects RX13 yX13_later yX13_later : Cond) ∈ jw := jin (jt_9 _ (List.mem_of_getElem? (i := 99) rfl)) rfl
set_option maxRecDepth 100000 in
theorem m_410 : (.instanceMethod yX13_laysOn : Cond) ∈ jw := jin (jt_10 _ (List.mem_of_getElem? (i := 88) rfl)) rfl
set_option maxRecDepth 100000 in
theorem m_411 : (.selects RX13 yX13_laysOn yX13_laysOn : Cond) ∈ jw := jin (jt_p _ (List.mem_of_getElem? (i := 142) rfl)) rfl
set_option maxRecDepth 100000 in
theorem m_412 : (.instanceMethod yX13_length : Cond) ∈ jw := jin (jt_10 _ (List.mem_of_getElem? (i := 50) rfl)) rfl
set_option maxRecDepth 100000 in
theorem m_413 : (.selects RX13 yX13_length yX13_length : Cond) ∈ jw := jin (jt_10 _ (List.mem_of_getElem? (i := 51) rfl)) rfl
set_option maxRecDepth 100000 in
theorem m_414 : (.instanceMethod yX13_lengths : Cond) ∈ jw := jin (jt_10 _ (List.mem_of_getElem? (i := 39) rfl)) rfl
set_option maxRecDepth 100000 in
theorem m_415 : (.selects RX13 yX13_lengths yX13_lengths : Cond) ∈ jw := jin (jt_10 _ (List.mem_of_getElem? (i := 40) rfl)) rfl
set_option maxRecDepth 100000 in
theorem m_416 : (.instanceMethod yX13_line : Cond) ∈ jw := jin (jt_9 _ (List.mem_of_getElem? (i := 167) rfl)) rfl
set_option maxRecDepth 100000 in
theorem m_417 : (.selects RX13 yX13_line yX13_line : Cond) ∈ jw := jin (jt_9 _ (List.mem_of_getElem? (i := 168) rfl)) rfl
set_option maxRecDepth 100000 in
theorem m_418 : (.instanceMethod yX13_linesOf : Cond) ∈ jw := jin (jt_9 _ (List.mem_of_getElem? (i := 152) rfl)) rfl
set_option maxRecDepth 100000 in
theorem m_419 : (.selects RX13 yX13_linesOf yX13_linesOf : Cond) ∈ jw := jin (jt_p _ (List.mem_of_getElem? (i := 125) rfl)) rfl
set_option maxRecDepth 100000 in
theorem m_420 : (.instanceMethod yX13_mayBeGiven : Cond) ∈ jw := jin (jt_9 _ (List.mem_of_getElem? (i := 140) rfl)) rfl
set_option maxRecDepth 100000 in
theorem m_421 : (.selects RX13 yX13_mayBeGiven yX13_mayBeGiven : Cond) ∈ jw := jin (jt_p _ (List.mem_of_getElem? (i := 122) rfl)) rfl
set_option maxRecDepth 100000 in
theorem m_422 : (.instanceMethod yX13_mend : Cond) ∈ jw := jin (jt_9 _ (List.mem_of_getElem? (i := 219) rfl)) rfl
set_option maxRecDepth 100000 in
theorem m_423 : (.selects RX13 yX13_mend yX13_mend : Cond) ∈ jw := jin (jt_9 _ (List.mem_of_getElem? (i := 220) rfl)) rfl
set_option maxRecDepth 100000 in
theorem m_424 : (.instanceMethod yX13_misses : Cond) ∈ jw := jin (jt_9 _ (List.mem_of_getElem? (i := 231) rfl)) rfl
set_option maxRecDepth 100000 in
theorem m_425 : (.selects RX13 yX13_misses yX13_misses : Cond) ∈ jw := jin (jt_9 _ (List.mem_of_getElem? (i := 232) rfl)) rfl
set_option maxRecDepth 100000 in
theorem m_426 : (.instanceMethod yX13_more : Cond) ∈ jw := jin (jt_8 _ (List.mem_of_getElem? (i := 211) rfl)) rfl
set_option maxRecDepth 100000 in
theorem m_427 : (.selects RX13 yX13_more yX13_more : Cond) ∈ jw := jin (jt_p _ (List.mem_of_getElem? (i := 101) rfl)) rfl
set_option maxRecDepth 100000 in
theorem m_428 : (.instanceMethod yX13_moreWords : Cond) ∈ jw := jin (jt_8 _ (List.mem_of_getElem? (i := 224) rfl)) rfl
set_option maxRecDepth 100000 in
theorem m_429 : (.selects RX13 yX13_moreWords yX13_moreWords : Cond) ∈ jw := jin (jt_p _ (List.mem_of_getElem? (i := 104) rfl)) rfl
set_option maxRecDepth 100000 in
theorem m_430 : (.static yX13_near : Cond) ∈ jw := jin (jt_9 _ (List.mem_of_getElem? (i := 80) rfl)) rfl
set_option maxRecDepth 100000 in
theorem m_431 : (.instanceMethod yX13_newEntry : Cond) ∈ jw := jin (jt_9 _ (List.mem_of_getElem? (i := 31) rfl)) rfl
set_option maxRecDepth 100000 in
theorem m_432 : (.selects RX13 yX13_newEntry yX13_newEntry : Cond) ∈ jw := jin (jt_p _ (List.mem_of_getElem? (i := 109) rfl)) rfl
set_option maxRecDepth 100000 in
theorem m_433 : (.instanceMethod yX13_next : Cond) ∈ jw := jin (jt_8 _ (List.mem_of_getElem? (i := 149) rfl)) rfl
set_option maxRecDepth 100000 in
theorem m_434 : (.selects RX13 yX13_next yX13_next : Cond) ∈ jw := jin (jt_p _ (List.mem_of_getElem? (i := 88) rfl)) rfl
set_option maxRecDepth 100000 in
theorem m_435 : (.static yX13_of : Cond) ∈ jw := jin (jt_9 _ (List.mem_of_getElem? (i := 77) rfl)) rfl
set_option maxRecDepth 100000 in
theorem m_436 : (.instanceMethod yX13_orders : Cond) ∈ jw := jin (jt_9 _ (List.mem_of_getElem? (i := 107) rfl)) rfl
set_option maxRecDepth 100000 in
theorem m_437 : (.selects RX13 yX13_orders yX13_orders : Cond) ∈ jw := jin (jt_p _ (List.mem_of_getElem? (i := 118) rfl)) rfl
set_option maxRecDepth 100000 in
theorem m_438 : (.instanceMethod yX13_owed : Cond) ∈ jw := jin (jt_10 _ (List.mem_of_getElem? (i := 35) rfl)) rfl
set_option maxRecDepth 100000 in
theorem m_439 : (.selects RX13 yX13_owed yX13_owed : Cond) ∈ jw := jin (jt_10 _ (List.mem_of_getElem? (i := 36) rfl)) rfl
set_option maxRecDepth 100000 in
theorem m_440 : (.instanceMethod yX13_page : Cond) ∈ jw := jin (jt_10 _ (List.mem_of_getElem? (i := 7) rfl)) rfl
set_option maxRecDepth 100000 in
theorem m_441 : (.selects RX13 yX13_page yX13_page : Cond) ∈ jw := jin (jt_10 _ (List.mem_of_getElem? (i := 8) rfl)) rfl
set_option maxRecDepth 100000 in
theorem m_442 : (.instanceMethod yX13_plate : Cond) ∈ jw := jin (jt_9 _ (List.mem_of_getElem? (i := 42) rfl)) rfl
set_option maxRecDepth 100000 in
theorem m_443 : (.selects RX13 yX13_plate yX13_plate : Cond) ∈ jw := jin (jt_9 _ (List.mem_of_getElem? (i := 43) rfl)) rfl
set_option maxRecDepth 100000 in
theorem m_444 : (.instanceMethod yX13_pointer : Cond) ∈ jw := jin (jt_9 _ (List.mem_of_getElem? (i := 34) rfl)) rfl
set_option maxRecDepth 100000 in
theorem m_445 : (.selects RX13 yX13_pointer yX13_pointer : Cond) ∈ jw := jin (jt_9 _ (List.mem_of_getElem? (i := 35) rfl)) rfl
set_option maxRecDepth 100000 in
theorem m_446 : (.instanceMethod yX13_points : Cond) ∈ jw := jin (jt_9 _ (List.mem_of_getElem? (i := 46) rfl)) rfl
set_option maxRecDepth 100000 in
theorem m_447 : (.selects RX13 yX13_points yX13_points : Cond) ∈ jw := jin (jt_9 _ (List.mem_of_getElem? (i := 47) rfl)) rfl
set_option maxRecDepth 100000 in
theorem m_448 : (.instanceMethod yX13_promise : Cond) ∈ jw := jin (jt_10 _ (List.mem_of_getElem? (i := 19) rfl)) rfl
set_option maxRecDepth 100000 in
theorem m_449 : (.selects RX13 yX13_promise yX13_promise : Cond) ∈ jw := jin (jt_10 _ (List.mem_of_getElem? (i := 20) rfl)) rfl
set_option maxRecDepth 100000 in
theorem m_450 : (.instanceMethod yX13_promised : Cond) ∈ jw := jin (jt_10 _ (List.mem_of_getElem? (i := 27) rfl)) rfl
set_option maxRecDepth 100000 in
theorem m_451 : (.selects RX13 yX13_promised yX13_promised : Cond) ∈ jw := jin (jt_10 _ (List.mem_of_getElem? (i := 28) rfl)) rfl
set_option maxRecDepth 100000 in
theorem m_452 : (.instanceMethod yX13_push : Cond) ∈ jw := jin (jt_8 _ (List.mem_of_getElem? (i := 167) rfl)) rfl
set_option maxRecDepth 100000 in
theorem m_453 : (.selects RX13 yX13_push yX13_push : Cond) ∈ jw := jin (jt_p _ (List.mem_of_getElem? (i := 90) rfl)) rfl
set_option maxRecDepth 100000 in
theorem m_454 : (.instanceMethod yX13_reads : Cond) ∈ jw := jin (jt_8 _ (List.mem_of_getElem? (i := 145) rfl)) rfl
set_option maxRecDepth 100000 in
theorem m_455 : (.selects RX13 yX13_reads yX13_reads : Cond) ∈ jw := jin (jt_p _ (List.mem_of_getElem? (i := 87) rfl)) rfl
set_option maxRecDepth 100000 in
theorem m_456 : (.instanceMethod yX13_reckoned : Cond) ∈ jw := jin (jt_9 _ (List.mem_of_getElem? (i := 74) rfl)) rfl
set_option maxRecDepth 100000 in
theorem m_457 : (.selects RX13 yX13_reckoned yX13_reckoned : Cond) ∈ jw := jin (jt_p _ (List.mem_of_getElem? (i := 115) rfl)) rfl
set_option maxRecDepth 100000 in
theorem m_458 : (.instanceMethod yX13_rule : Cond) ∈ jw := jin (jt_9 _ (List.mem_of_getElem? (i := 6) rfl)) rfl
set_option maxRecDepth 100000 in
theorem m_459 : (.selects RX13 yX13_rule yX13_rule : Cond) ∈ jw := jin (jt_9 _ (List.mem_of_getElem? (i := 7) rfl)) rfl
set_option maxRecDepth 100000 in
theorem m_460 : (.instanceMethod yX13_set : Cond) ∈ jw := jin (jt_9 _ (List.mem_of_getElem? (i := 239) rfl)) rfl
set_option maxRecDepth 100000 in
theorem m_461 : (.selects RX13 yX13_set yX13_set : Cond) ∈ jw := jin (jt_10 _ (List.mem_of_getElem? (i := 0) rfl)) rfl
set_option maxRecDepth 100000 in
theorem m_462 : (.instanceMethod yX13_sheet : Cond) ∈ jw := jin (jt_8 _ (List.mem_of_getElem? (i := 235) rfl)) rfl
set_option maxRecDepth 100000 in
theorem m_463 : (.selects RX13 yX13_sheet yX13_sheet : Cond) ∈ jw := jin (jt_8 _ (List.mem_of_getElem? (i := 236) rfl)) rfl
set_option maxRecDepth 100000 in
theorem m_464 : (.instanceMethod yX13_skip : Cond) ∈ jw := jin (jt_8 _ (List.mem_of_getElem? (i := 191) rfl)) rfl
set_option maxRecDepth 100000 in
theorem m_465 : (.selects RX13 yX13_skip yX13_skip : Cond) ∈ jw := jin (jt_p _ (List.mem_of_getElem? (i := 96) rfl)) rfl
set_option maxRecDepth 100000 in
theorem m_466 : (.instanceMethod yX13_stale : Cond) ∈ jw := jin (jt_9 _ (List.mem_of_getElem? (i := 199) rfl)) rfl
set_option maxRecDepth 100000 in
theorem m_467 : (.selects RX13 yX13_stale yX13_stale : Cond) ∈ jw := jin (jt_9 _ (List.mem_of_getElem? (i := 200) rfl)) rfl
set_option maxRecDepth 100000 in
theorem m_468 : (.instanceMethod yX13_stales : Cond) ∈ jw := jin (jt_9 _ (List.mem_of_getElem? (i := 215) rfl)) rfl
set_option maxRecDepth 100000 in
theorem m_469 : (.selects RX13 yX13_stales yX13_stales : Cond) ∈ jw := jin (jt_9 _ (List.mem_of_getElem? (i := 216) rfl)) rfl
set_option maxRecDepth 100000 in
theorem m_470 : (.instanceMethod yX13_steal : Cond) ∈ jw := jin (jt_10 _ (List.mem_of_getElem? (i := 75) rfl)) rfl
set_option maxRecDepth 100000 in
theorem m_471 : (.selects RX13 yX13_steal yX13_steal : Cond) ∈ jw := jin (jt_10 _ (List.mem_of_getElem? (i := 76) rfl)) rfl
set_option maxRecDepth 100000 in
theorem m_472 : (.instanceMethod yX13_steps : Cond) ∈ jw := jin (jt_8 _ (List.mem_of_getElem? (i := 171) rfl)) rfl
set_option maxRecDepth 100000 in
theorem m_473 : (.selects RX13 yX13_steps yX13_steps : Cond) ∈ jw := jin (jt_p _ (List.mem_of_getElem? (i := 91) rfl)) rfl
set_option maxRecDepth 100000 in
theorem m_474 : (.instanceMethod yX13_strike : Cond) ∈ jw := jin (jt_9 _ (List.mem_of_getElem? (i := 90) rfl)) rfl
set_option maxRecDepth 100000 in
theorem m_475 : (.selects RX13 yX13_strike yX13_strike : Cond) ∈ jw := jin (jt_9 _ (List.mem_of_getElem? (i := 91) rfl)) rfl
set_option maxRecDepth 100000 in
theorem m_476 : (.instanceMethod yX13_subscribe : Cond) ∈ jw := jin (jt_10 _ (List.mem_of_getElem? (i := 31) rfl)) rfl
set_option maxRecDepth 100000 in
theorem m_477 : (.selects RX13 yX13_subscribe yX13_subscribe : Cond) ∈ jw := jin (jt_10 _ (List.mem_of_getElem? (i := 32) rfl)) rfl
set_option maxRecDepth 100000 in
theorem m_478 : (.instanceMethod yX13_takers : Cond) ∈ jw := jin (jt_9 _ (List.mem_of_getElem? (i := 187) rfl)) rfl
set_option maxRecDepth 100000 in
theorem m_479 : (.selects RX13 yX13_takers yX13_takers : Cond) ∈ jw := jin (jt_9 _ (List.mem_of_getElem? (i := 188) rfl)) rfl
set_option maxRecDepth 100000 in
theorem m_480 : (.instanceMethod yX13_takes : Cond) ∈ jw := jin (jt_8 _ (List.mem_of_getElem? (i := 183) rfl)) rfl
set_option maxRecDepth 100000 in
theorem m_481 : (.selects RX13 yX13_takes yX13_takes : Cond) ∈ jw := jin (jt_p _ (List.mem_of_getElem? (i := 94) rfl)) rfl
set_option maxRecDepth 100000 in
theorem m_482 : (.instanceMethod yX13_tell : Cond) ∈ jw := jin (jt_9 _ (List.mem_of_getElem? (i := 191) rfl)) rfl
set_option maxRecDepth 100000 in
theorem m_483 : (.selects RX13 yX13_tell yX13_tell : Cond) ∈ jw := jin (jt_9 _ (List.mem_of_getElem? (i := 192) rfl)) rfl
set_option maxRecDepth 100000 in
theorem m_484 : (.instanceMethod yX13_tells : Cond) ∈ jw := jin (jt_9 _ (List.mem_of_getElem? (i := 67) rfl)) rfl
set_option maxRecDepth 100000 in
theorem m_485 : (.selects RX13 yX13_tells yX13_tells : Cond) ∈ jw := jin (jt_p _ (List.mem_of_getElem? (i := 114) rfl)) rfl
set_option maxRecDepth 100000 in
theorem m_486 : (.instanceMethod yX13_thief : Cond) ∈ jw := jin (jt_10 _ (List.mem_of_getElem? (i := 83) rfl)) rfl
set_option maxRecDepth 100000 in
theorem m_487 : (.selects RX13 yX13_thief yX13_thief : Cond) ∈ jw := jin (jt_10 _ (List.mem_of_getElem? (i := 84) rfl)) rfl
set_option maxRecDepth 100000 in
theorem m_488 : (.instanceMethod yX13_told : Cond) ∈ jw := jin (jt_9 _ (List.mem_of_getElem? (i := 235) rfl)) rfl
set_option maxRecDepth 100000 in
theorem m_489 : (.selects RX13 yX13_told yX13_told : Cond) ∈ jw := jin (jt_9 _ (List.mem_of_getElem? (i := 236) rfl)) rfl
set_option maxRecDepth 100000 in
theorem m_490 : (.instanceMethod yX13_valueOf : Cond) ∈ jw := jin (jt_9 _ (List.mem_of_getElem? (i := 172) rfl)) rfl
set_option maxRecDepth 100000 in
theorem m_491 : (.selects RX13 yX13_valueOf yX13_valueOf : Cond) ∈ jw := jin (jt_p _ (List.mem_of_getElem? (i := 129) rfl)) rfl
set_option maxRecDepth 100000 in
theorem m_492 : (.instanceMethod yX13_volume : Cond) ∈ jw := jin (jt_9 _ (List.mem_of_getElem? (i := 50) rfl)) rfl
set_option maxRecDepth 100000 in
theorem m_493 : (.selects RX13 yX13_volume yX13_volume : Cond) ∈ jw := jin (jt_9 _ (List.mem_of_getElem? (i := 51) rfl)) rfl
set_option maxRecDepth 100000 in
theorem m_494 : (.instanceMethod yX13_volumeOf : Cond) ∈ jw := jin (jt_9 _ (List.mem_of_getElem? (i := 55) rfl)) rfl
set_option maxRecDepth 100000 in
theorem m_495 : (.selects RX13 yX13_volumeOf yX13_volumeOf : Cond) ∈ jw := jin (jt_p _ (List.mem_of_getElem? (i := 111) rfl)) rfl
set_option maxRecDepth 100000 in
theorem m_496 : (.instanceMethod yX13_way : Cond) ∈ jw := jin (jt_10 _ (List.mem_of_getElem? (i := 64) rfl)) rfl
set_option maxRecDepth 100000 in
theorem m_497 : (.selects RX13 yX13_way yX13_way : Cond) ∈ jw := jin (jt_p _ (List.mem_of_getElem? (i := 141) rfl)) rfl
set_option maxRecDepth 100000 in
theorem m_498 : (.instanceMethod yX13_why : Cond) ∈ jw := jin (jt_9 _ (List.mem_of_getElem? (i := 118) rfl)) rfl
set_option maxRecDepth 100000 in
theorem m_499 : (.selects RX13 yX13_why yX13_why : Cond) ∈ jw := jin (jt_9 _ (List.mem_of_getElem? (i := 119) rfl)) rfl
set_option maxRecDepth 100000 in
theorem m_500 : (.static yX13_without : Cond) ∈ jw := jin (jt_9 _ (List.mem_of_getElem? (i := 70) rfl)) rfl
set_option maxRecDepth 100000 in
theorem m_501 : (.instanceMethod yX13_wordAt : Cond) ∈ jw := jin (jt_8 _ (List.mem_of_getElem? (i := 156) rfl)) rfl
set_option maxRecDepth 100000 in
theorem m_502 : (.selects RX13 yX13_wordAt yX13_wordAt : Cond) ∈ jw := jin (jt_p _ (List.mem_of_getElem? (i := 89) rfl)) rfl
set_option maxRecDepth 100000 in
theorem m_503 : (.initialized RX13 : Cond) ∈ jw := jin (jt_1 _ (List.mem_of_getElem? (i := 12) rfl)) rfl
set_option maxRecDepth 100000 in
theorem m_504 : (.constant RX13 248 (-1000000) : Cond) ∈ jw := jin (jt_9 _ (List.mem_of_getElem? (i := 83) rfl)) rfl
set_option maxRecDepth 100000 in
theorem m_505 : (.constant RX13 251 1000000 : Cond) ∈ jw := jin (jt_8 _ (List.mem_of_getElem? (i := 164) rfl)) rfl
set_option maxRecDepth 100000 in
theorem m_506 : (.constant RX13 364 99999 : Cond) ∈ jw := jin (jt_8 _ (List.mem_of_getElem? (i := 217) rfl)) rfl
set_option maxRecDepth 100000 in
theorem m_507 : (.constant RX13 448 (-40000) : Cond) ∈ jw := jin (jt_9 _ (List.mem_of_getElem? (i := 125) rfl)) rfl
set_option maxRecDepth 100000 in
theorem m_508 : (.constant RX13 524 1073741824 : Cond) ∈ jw := jin (jt_10 _ (List.mem_of_getElem? (i := 61) rfl)) rfl
