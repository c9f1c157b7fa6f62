theorem jt_all : ∀ w ∈ tables_1, w ∈ lw_tbl := fun _ h => List.mem_append_right _ h
theorem jt_1 : ∀ w ∈ tables_1_1, w ∈ lw_tbl := fun w h => jt_all w (List.mem_append_left _ h)
theorem jt_2 : ∀ w ∈ tables_1_2, w ∈ lw_tbl := fun w h => jt_all w (List.mem_append_right _ (List.mem_append_left _ h))
theorem jt_3 : ∀ w ∈ tables_1_3, w ∈ lw_tbl := fun w h => jt_all w (List.mem_append_right _ (List.mem_append_right _ (List.mem_append_left _ h)))
theorem jt_4 : ∀ w ∈ tables_1_4, w ∈ lw_tbl := fun w h => jt_all w (List.mem_append_right _ (List.mem_append_right _ (List.mem_append_right _ (List.mem_append_left _ h))))
theorem jt_5 : ∀ w ∈ tables_1_5, w ∈ lw_tbl := fun w h => jt_all w (List.mem_append_right _ (List.mem_append_right _ (List.mem_append_right _ (List.mem_append_right _ (List.mem_append_left _ h)))))
theorem jt_6 : ∀ w ∈ tables_1_6, w ∈ lw_tbl := fun w h => jt_all w (List.mem_append_right _ (List.mem_append_right _ (List.mem_append_right _ (List.mem_append_right _ (List.mem_append_right _ (List.mem_append_left _ h))))))
theorem jt_7 : ∀ w ∈ tables_1_7, w ∈ lw_tbl := fun w h => jt_all w (List.mem_append_right _ (List.mem_append_right _ (List.mem_append_right _ (List.mem_append_right _ (List.mem_append_right _ (List.mem_append_right _ (List.mem_append_left _ h)))))))
theorem jt_8 : ∀ w ∈ tables_1_8, w ∈ lw_tbl := fun w h => jt_all w (List.mem_append_right _ (List.mem_append_right _ (List.mem_append_right _ (List.mem_append_right _ (List.mem_append_right _ (List.mem_append_right _ (List.mem_append_right _ (List.mem_append_left _ h))))))))
theorem jt_9 : ∀ w ∈ tables_1_9, w ∈ lw_tbl := fun w h => jt_all w (List.mem_append_right _ (List.mem_append_right _ (List.mem_append_right _ (List.mem_append_right _ (List.mem_append_right _ (List.mem_append_right _ (List.mem_append_right _ (List.mem_append_right _ (List.mem_append_left _ h)))))))))
theorem jt_10 : ∀ w ∈ tables_1_10, w ∈ lw_tbl := fun w h => jt_all w (List.mem_append_right _ (List.mem_append_right _ (List.mem_append_right _ (List.mem_append_right _ (List.mem_append_right _ (List.mem_append_right _ (List.mem_append_right _ (List.mem_append_right _ (List.mem_append_right _ (h))))))))))
theorem jt_p : ∀ w ∈ k2_sels lw_privs, w ∈ lw_tbl := fun _ h => List.mem_append_left _ h
set_option maxRecDepth 100000 in
theorem m_0 : (.arrayClass .byte : Cond) ∈ jw := jin (jt_1 _ (List.mem_of_getElem? (i := 86) (by decide +kernel))) (by decide +kernel)
set_option maxRecDepth 100000 in
theorem m_1 : (.fieldLink RX13 9 "BookOfAllModel" "text" "[B" : Cond) ∈ jw := jin (jt_7 _ (List.mem_of_getElem? (i := 55) (by decide +kernel))) (by decide +kernel)
set_option maxRecDepth 100000 in
theorem m_2 : (.arrayClass .int : Cond) ∈ jw := jin (jt_1 _ (List.mem_of_getElem? (i := 87) (by decide +kernel))) (by decide +kernel)
set_option maxRecDepth 100000 in
theorem m_3 : (.fieldLink RX13 13 "BookOfAllModel" "toCome" "[I" : Cond) ∈ jw := jin (jt_7 _ (List.mem_of_getElem? (i := 61) (by decide +kernel))) (by decide +kernel)
set_option maxRecDepth 100000 in
theorem m_4 : (.fieldLink RX13 17 "BookOfAllModel" "does" "[I" : Cond) ∈ jw := jin (jt_7 _ (List.mem_of_getElem? (i := 65) (by decide +kernel))) (by decide +kernel)
set_option maxRecDepth 100000 in
theorem m_5 : (.fieldLink RX13 20 "BookOfAllModel" "doesWith" "[I" : Cond) ∈ jw := jin (jt_7 _ (List.mem_of_getElem? (i := 66) (by decide +kernel))) (by decide +kernel)
set_option maxRecDepth 100000 in
theorem m_6 : (.fieldLink RX13 23 "BookOfAllModel" "slotBegin" "[I" : Cond) ∈ jw := jin (jt_7 _ (List.mem_of_getElem? (i := 68) (by decide +kernel))) (by decide +kernel)
set_option maxRecDepth 100000 in
theorem m_7 : (.fieldLink RX13 26 "BookOfAllModel" "slotEnd" "[I" : Cond) ∈ jw := jin (jt_7 _ (List.mem_of_getElem? (i := 69) (by decide +kernel))) (by decide +kernel)
set_option maxRecDepth 100000 in
theorem m_8 : (.fieldLink RX13 29 "BookOfAllModel" "skipAt" "[I" : Cond) ∈ jw := jin (jt_7 _ (List.mem_of_getElem? (i := 71) (by decide +kernel))) (by decide +kernel)
set_option maxRecDepth 100000 in
theorem m_9 : (.fieldLink RX13 32 "BookOfAllModel" "skipLong" "[I" : Cond) ∈ jw := jin (jt_7 _ (List.mem_of_getElem? (i := 72) (by decide +kernel))) (by decide +kernel)
set_option maxRecDepth 100000 in
theorem m_10 : (.fieldLink RX13 35 "BookOfAllModel" "codes" "[I" : Cond) ∈ jw := jin (jt_7 _ (List.mem_of_getElem? (i := 74) (by decide +kernel))) (by decide +kernel)
set_option maxRecDepth 100000 in
theorem m_11 : (.fieldLink RX13 38 "BookOfAllModel" "codesWith" "[I" : Cond) ∈ jw := jin (jt_7 _ (List.mem_of_getElem? (i := 75) (by decide +kernel))) (by decide +kernel)
set_option maxRecDepth 100000 in
theorem m_12 : (.fieldLink RX13 41 "BookOfAllModel" "sheetBegin" "[I" : Cond) ∈ jw := jin (jt_7 _ (List.mem_of_getElem? (i := 76) (by decide +kernel))) (by decide +kernel)
set_option maxRecDepth 100000 in
theorem m_13 : (.fieldLink RX13 44 "BookOfAllModel" "sheetEnd" "[I" : Cond) ∈ jw := jin (jt_7 _ (List.mem_of_getElem? (i := 77) (by decide +kernel))) (by decide +kernel)
set_option maxRecDepth 100000 in
theorem m_14 : (.fieldLink RX13 47 "BookOfAllModel" "sheetSkips" "[I" : Cond) ∈ jw := jin (jt_7 _ (List.mem_of_getElem? (i := 78) (by decide +kernel))) (by decide +kernel)
set_option maxRecDepth 100000 in
theorem m_15 : (.fieldLink RX13 50 "BookOfAllModel" "skipText" "[B" : Cond) ∈ jw := jin (jt_7 _ (List.mem_of_getElem? (i := 79) (by decide +kernel))) (by decide +kernel)
set_option maxRecDepth 100000 in
theorem m_16 : (.fieldLink RX13 53 "BookOfAllModel" "skipSize" "[I" : Cond) ∈ jw := jin (jt_7 _ (List.mem_of_getElem? (i := 80) (by decide +kernel))) (by decide +kernel)
set_option maxRecDepth 100000 in
theorem m_17 : (.fieldLink RX13 56 "BookOfAllModel" "forcedSheet" "[I" : Cond) ∈ jw := jin (jt_7 _ (List.mem_of_getElem? (i := 82) (by decide +kernel))) (by decide +kernel)
set_option maxRecDepth 100000 in
theorem m_18 : (.fieldLink RX13 59 "BookOfAllModel" "forcedFor" "[I" : Cond) ∈ jw := jin (jt_7 _ (List.mem_of_getElem? (i := 83) (by decide +kernel))) (by decide +kernel)
set_option maxRecDepth 100000 in
theorem m_19 : (.fieldLink RX13 62 "BookOfAllModel" "forcedIn" "[I" : Cond) ∈ jw := jin (jt_7 _ (List.mem_of_getElem? (i := 84) (by decide +kernel))) (by decide +kernel)
set_option maxRecDepth 100000 in
theorem m_20 : (.fieldLink RX13 65 "BookOfAllModel" "bounds" "[I" : Cond) ∈ jw := jin (jt_7 _ (List.mem_of_getElem? (i := 86) (by decide +kernel))) (by decide +kernel)
set_option maxRecDepth 100000 in
theorem m_21 : (.arrayClass .boolean : Cond) ∈ jw := jin (jt_1 _ (List.mem_of_getElem? (i := 239) (by decide +kernel))) (by decide +kernel)
set_option maxRecDepth 100000 in
theorem m_22 : (.fieldLink RX13 68 "BookOfAllModel" "isSet" "[Z" : Cond) ∈ jw := jin (jt_7 _ (List.mem_of_getElem? (i := 87) (by decide +kernel))) (by decide +kernel)
set_option maxRecDepth 100000 in
theorem m_23 : (.fieldLink RX13 72 "BookOfAllModel" "setIn" "[I" : Cond) ∈ jw := jin (jt_7 _ (List.mem_of_getElem? (i := 88) (by decide +kernel))) (by decide +kernel)
set_option maxRecDepth 100000 in
theorem m_24 : (.fieldLink RX13 75 "BookOfAllModel" "setMany" "[I" : Cond) ∈ jw := jin (jt_7 _ (List.mem_of_getElem? (i := 89) (by decide +kernel))) (by decide +kernel)
set_option maxRecDepth 100000 in
theorem m_25 : (.fieldLink RX13 78 "BookOfAllModel" "setOrder" "[I" : Cond) ∈ jw := jin (jt_7 _ (List.mem_of_getElem? (i := 90) (by decide +kernel))) (by decide +kernel)
set_option maxRecDepth 100000 in
theorem m_26 : (.fieldLink RX13 81 "BookOfAllModel" "setLines" "[I" : Cond) ∈ jw := jin (jt_7 _ (List.mem_of_getElem? (i := 91) (by decide +kernel))) (by decide +kernel)
set_option maxRecDepth 100000 in
theorem m_27 : (.fieldLink RX13 84 "BookOfAllModel" "heading" "[B" : Cond) ∈ jw := jin (jt_7 _ (List.mem_of_getElem? (i := 93) (by decide +kernel))) (by decide +kernel)
set_option maxRecDepth 100000 in
theorem m_28 : (.fieldLink RX13 87 "BookOfAllModel" "headingLong" "[I" : Cond) ∈ jw := jin (jt_7 _ (List.mem_of_getElem? (i := 94) (by decide +kernel))) (by decide +kernel)
set_option maxRecDepth 100000 in
theorem m_29 : (.fieldLink RX13 90 "BookOfAllModel" "kind" "[I" : Cond) ∈ jw := jin (jt_7 _ (List.mem_of_getElem? (i := 95) (by decide +kernel))) (by decide +kernel)
set_option maxRecDepth 100000 in
theorem m_30 : (.fieldLink RX13 93 "BookOfAllModel" "sort" "[I" : Cond) ∈ jw := jin (jt_7 _ (List.mem_of_getElem? (i := 96) (by decide +kernel))) (by decide +kernel)
set_option maxRecDepth 100000 in
theorem m_31 : (.fieldLink RX13 96 "BookOfAllModel" "field" "[I" : Cond) ∈ jw := jin (jt_7 _ (List.mem_of_getElem? (i := 97) (by decide +kernel))) (by decide +kernel)
set_option maxRecDepth 100000 in
theorem m_32 : (.fieldLink RX13 99 "BookOfAllModel" "asked" "[I" : Cond) ∈ jw := jin (jt_7 _ (List.mem_of_getElem? (i := 98) (by decide +kernel))) (by decide +kernel)
set_option maxRecDepth 100000 in
theorem m_33 : (.fieldLink RX13 102 "BookOfAllModel" "leads" "[I" : Cond) ∈ jw := jin (jt_7 _ (List.mem_of_getElem? (i := 99) (by decide +kernel))) (by decide +kernel)
set_option maxRecDepth 100000 in
theorem m_34 : (.fieldLink RX13 105 "BookOfAllModel" "givenTo" "[I" : Cond) ∈ jw := jin (jt_7 _ (List.mem_of_getElem? (i := 100) (by decide +kernel))) (by decide +kernel)
set_option maxRecDepth 100000 in
theorem m_35 : (.fieldLink RX13 108 "BookOfAllModel" "isStruck" "[Z" : Cond) ∈ jw := jin (jt_7 _ (List.mem_of_getElem? (i := 101) (by decide +kernel))) (by decide +kernel)
set_option maxRecDepth 100000 in
theorem m_36 : (.fieldLink RX13 111 "BookOfAllModel" "isLater" "[Z" : Cond) ∈ jw := jin (jt_7 _ (List.mem_of_getElem? (i := 102) (by decide +kernel))) (by decide +kernel)
set_option maxRecDepth 100000 in
theorem m_37 : (.fieldLink RX13 114 "BookOfAllModel" "setWith" "[I" : Cond) ∈ jw := jin (jt_7 _ (List.mem_of_getElem? (i := 103) (by decide +kernel))) (by decide +kernel)
set_option maxRecDepth 100000 in
theorem m_38 : (.fieldLink RX13 117 "BookOfAllModel" "pageOf" "[I" : Cond) ∈ jw := jin (jt_7 _ (List.mem_of_getElem? (i := 104) (by decide +kernel))) (by decide +kernel)
set_option maxRecDepth 100000 in
theorem m_39 : (.fieldLink RX13 120 "BookOfAllModel" "fields" "[I" : Cond) ∈ jw := jin (jt_7 _ (List.mem_of_getElem? (i := 106) (by decide +kernel))) (by decide +kernel)
set_option maxRecDepth 100000 in
theorem m_40 : (.fieldLink RX13 123 "BookOfAllModel" "skill" "[I" : Cond) ∈ jw := jin (jt_7 _ (List.mem_of_getElem? (i := 107) (by decide +kernel))) (by decide +kernel)
set_option maxRecDepth 100000 in
theorem m_41 : (.fieldLink RX13 126 "BookOfAllModel" "born" "[I" : Cond) ∈ jw := jin (jt_7 _ (List.mem_of_getElem? (i := 108) (by decide +kernel))) (by decide +kernel)
set_option maxRecDepth 100000 in
theorem m_42 : (.fieldLink RX13 129 "BookOfAllModel" "isDead" "[Z" : Cond) ∈ jw := jin (jt_7 _ (List.mem_of_getElem? (i := 109) (by decide +kernel))) (by decide +kernel)
set_option maxRecDepth 100000 in
theorem m_43 : (.fieldLink RX13 132 "BookOfAllModel" "areEnemies" "[Z" : Cond) ∈ jw := jin (jt_7 _ (List.mem_of_getElem? (i := 110) (by decide +kernel))) (by decide +kernel)
set_option maxRecDepth 100000 in
theorem m_44 : (.fieldLink RX13 135 "BookOfAllModel" "lineOf" "[I" : Cond) ∈ jw := jin (jt_7 _ (List.mem_of_getElem? (i := 112) (by decide +kernel))) (by decide +kernel)
set_option maxRecDepth 100000 in
theorem m_45 : (.fieldLink RX13 138 "BookOfAllModel" "lineHand" "[I" : Cond) ∈ jw := jin (jt_7 _ (List.mem_of_getElem? (i := 113) (by decide +kernel))) (by decide +kernel)
set_option maxRecDepth 100000 in
theorem m_46 : (.fieldLink RX13 141 "BookOfAllModel" "lineFact" "[I" : Cond) ∈ jw := jin (jt_7 _ (List.mem_of_getElem? (i := 114) (by decide +kernel))) (by decide +kernel)
set_option maxRecDepth 100000 in
theorem m_47 : (.fieldLink RX13 144 "BookOfAllModel" "lineOn" "[I" : Cond) ∈ jw := jin (jt_7 _ (List.mem_of_getElem? (i := 115) (by decide +kernel))) (by decide +kernel)
set_option maxRecDepth 100000 in
theorem m_48 : (.fieldLink RX13 147 "BookOfAllModel" "lineKeeps" "[I" : Cond) ∈ jw := jin (jt_7 _ (List.mem_of_getElem? (i := 116) (by decide +kernel))) (by decide +kernel)
set_option maxRecDepth 100000 in
theorem m_49 : (.fieldLink RX13 150 "BookOfAllModel" "lineTerm" "[I" : Cond) ∈ jw := jin (jt_7 _ (List.mem_of_getElem? (i := 117) (by decide +kernel))) (by decide +kernel)
set_option maxRecDepth 100000 in
theorem m_50 : (.fieldLink RX13 153 "BookOfAllModel" "linePay" "[I" : Cond) ∈ jw := jin (jt_7 _ (List.mem_of_getElem? (i := 118) (by decide +kernel))) (by decide +kernel)
set_option maxRecDepth 100000 in
theorem m_51 : (.fieldLink RX13 156 "BookOfAllModel" "linePage" "[I" : Cond) ∈ jw := jin (jt_7 _ (List.mem_of_getElem? (i := 119) (by decide +kernel))) (by decide +kernel)
set_option maxRecDepth 100000 in
theorem m_52 : (.fieldLink RX13 159 "BookOfAllModel" "linePlace" "[I" : Cond) ∈ jw := jin (jt_7 _ (List.mem_of_getElem? (i := 120) (by decide +kernel))) (by decide +kernel)
set_option maxRecDepth 100000 in
theorem m_53 : (.fieldLink RX13 162 "BookOfAllModel" "toldFact" "[I" : Cond) ∈ jw := jin (jt_7 _ (List.mem_of_getElem? (i := 122) (by decide +kernel))) (by decide +kernel)
set_option maxRecDepth 100000 in
theorem m_54 : (.fieldLink RX13 165 "BookOfAllModel" "toldValue" "[I" : Cond) ∈ jw := jin (jt_7 _ (List.mem_of_getElem? (i := 123) (by decide +kernel))) (by decide +kernel)
set_option maxRecDepth 100000 in
theorem m_55 : (.fieldLink RX13 168 "BookOfAllModel" "toldBy" "[I" : Cond) ∈ jw := jin (jt_7 _ (List.mem_of_getElem? (i := 124) (by decide +kernel))) (by decide +kernel)
set_option maxRecDepth 100000 in
theorem m_56 : (.fieldLink RX13 171 "BookOfAllModel" "toldIn" "[I" : Cond) ∈ jw := jin (jt_7 _ (List.mem_of_getElem? (i := 125) (by decide +kernel))) (by decide +kernel)
set_option maxRecDepth 100000 in
theorem m_57 : (.fieldLink RX13 174 "BookOfAllModel" "errorLine" "[I" : Cond) ∈ jw := jin (jt_7 _ (List.mem_of_getElem? (i := 127) (by decide +kernel))) (by decide +kernel)
set_option maxRecDepth 100000 in
theorem m_58 : (.fieldLink RX13 177 "BookOfAllModel" "errorIs" "[I" : Cond) ∈ jw := jin (jt_7 _ (List.mem_of_getElem? (i := 128) (by decide +kernel))) (by decide +kernel)
set_option maxRecDepth 100000 in
theorem m_59 : (.fieldLink RX13 180 "BookOfAllModel" "errorShould" "[I" : Cond) ∈ jw := jin (jt_7 _ (List.mem_of_getElem? (i := 129) (by decide +kernel))) (by decide +kernel)
set_option maxRecDepth 100000 in
theorem m_60 : (.fieldLink RX13 183 "BookOfAllModel" "errorIn" "[I" : Cond) ∈ jw := jin (jt_7 _ (List.mem_of_getElem? (i := 130) (by decide +kernel))) (by decide +kernel)
set_option maxRecDepth 100000 in
theorem m_61 : (.fieldLink RX13 186 "BookOfAllModel" "subscribedFrom" "[I" : Cond) ∈ jw := jin (jt_7 _ (List.mem_of_getElem? (i := 131) (by decide +kernel))) (by decide +kernel)
set_option maxRecDepth 100000 in
theorem m_62 : (.fieldLink RX13 189 "BookOfAllModel" "subscribedFor" "[I" : Cond) ∈ jw := jin (jt_7 _ (List.mem_of_getElem? (i := 132) (by decide +kernel))) (by decide +kernel)
set_option maxRecDepth 100000 in
theorem m_63 : (.fieldLink RX13 192 "BookOfAllModel" "stole" "[I" : Cond) ∈ jw := jin (jt_7 _ (List.mem_of_getElem? (i := 134) (by decide +kernel))) (by decide +kernel)
set_option maxRecDepth 100000 in
theorem m_64 : (.fieldLink RX13 195 "BookOfAllModel" "names" "[I" : Cond) ∈ jw := jin (jt_7 _ (List.mem_of_getElem? (i := 135) (by decide +kernel))) (by decide +kernel)
set_option maxRecDepth 100000 in
theorem m_65 : (.fieldLink RX13 198 "BookOfAllModel" "heap" "[I" : Cond) ∈ jw := jin (jt_7 _ (List.mem_of_getElem? (i := 136) (by decide +kernel))) (by decide +kernel)
set_option maxRecDepth 100000 in
theorem m_66 : (.fieldLink RX13 201 "BookOfAllModel" "keyOne" "[I" : Cond) ∈ jw := jin (jt_7 _ (List.mem_of_getElem? (i := 137) (by decide +kernel))) (by decide +kernel)
set_option maxRecDepth 100000 in
theorem m_67 : (.fieldLink RX13 204 "BookOfAllModel" "keyTwo" "[I" : Cond) ∈ jw := jin (jt_7 _ (List.mem_of_getElem? (i := 138) (by decide +kernel))) (by decide +kernel)
set_option maxRecDepth 100000 in
theorem m_68 : (.fieldLink RX13 207 "BookOfAllModel" "told12" "[B" : Cond) ∈ jw := jin (jt_7 _ (List.mem_of_getElem? (i := 139) (by decide +kernel))) (by decide +kernel)
set_option maxRecDepth 100000 in
theorem m_69 : (.fieldLink RX13 210 "BookOfAllModel" "order" "[I" : Cond) ∈ jw := jin (jt_7 _ (List.mem_of_getElem? (i := 140) (by decide +kernel))) (by decide +kernel)
set_option maxRecDepth 100000 in
theorem m_70 : (.fieldLink RX13 213 "BookOfAllModel" "low" "[I" : Cond) ∈ jw := jin (jt_7 _ (List.mem_of_getElem? (i := 142) (by decide +kernel))) (by decide +kernel)
set_option maxRecDepth 100000 in
theorem m_71 : (.fieldLink RX13 216 "BookOfAllModel" "high" "[I" : Cond) ∈ jw := jin (jt_7 _ (List.mem_of_getElem? (i := 143) (by decide +kernel))) (by decide +kernel)
set_option maxRecDepth 100000 in
theorem m_72 : (.fieldLink RX13 219 "BookOfAllModel" "longs" "[I" : Cond) ∈ jw := jin (jt_7 _ (List.mem_of_getElem? (i := 144) (by decide +kernel))) (by decide +kernel)
set_option maxRecDepth 100000 in
theorem m_73 : (.fieldLink RX13 222 "BookOfAllModel" "few" "[I" : Cond) ∈ jw := jin (jt_7 _ (List.mem_of_getElem? (i := 146) (by decide +kernel))) (by decide +kernel)
set_option maxRecDepth 100000 in
theorem m_74 : (.fieldLink RX13 225 "BookOfAllModel" "fewHands" "[I" : Cond) ∈ jw := jin (jt_7 _ (List.mem_of_getElem? (i := 147) (by decide +kernel))) (by decide +kernel)
set_option maxRecDepth 100000 in
theorem m_75 : (.fieldLink RX13 228 "BookOfAllModel" "can" "[Z" : Cond) ∈ jw := jin (jt_7 _ (List.mem_of_getElem? (i := 148) (by decide +kernel))) (by decide +kernel)
set_option maxRecDepth 100000 in
theorem m_76 : (.fieldLink RX13 231 "BookOfAllModel" "gets" "[I" : Cond) ∈ jw := jin (jt_7 _ (List.mem_of_getElem? (i := 149) (by decide +kernel))) (by decide +kernel)
set_option maxRecDepth 100000 in
theorem m_77 : (.fieldLink RX13 234 "BookOfAllModel" "lacks" "[I" : Cond) ∈ jw := jin (jt_7 _ (List.mem_of_getElem? (i := 150) (by decide +kernel))) (by decide +kernel)
set_option maxRecDepth 100000 in
theorem m_78 : (.fieldLink RX13 237 "BookOfAllModel" "laidLine" "[I" : Cond) ∈ jw := jin (jt_7 _ (List.mem_of_getElem? (i := 156) (by decide +kernel))) (by decide +kernel)
set_option maxRecDepth 100000 in
theorem m_79 : (.fieldLink RX13 240 "BookOfAllModel" "changes" "[I" : Cond) ∈ jw := jin (jt_7 _ (List.mem_of_getElem? (i := 157) (by decide +kernel))) (by decide +kernel)
set_option maxRecDepth 100000 in
theorem m_80 : (.fieldLink RX13 243 "BookOfAllModel" "shared" "[I" : Cond) ∈ jw := jin (jt_7 _ (List.mem_of_getElem? (i := 158) (by decide +kernel))) (by decide +kernel)
set_option maxRecDepth 100000 in
theorem m_81 : (.methodLink RX0 40 yX0_isDigit : Cond) ∈ jw := jin (jt_4 _ (List.mem_of_getElem? (i := 97) (by decide +kernel))) (by decide +kernel)
set_option maxRecDepth 100000 in
theorem m_82 : (.static yX0_isDigit : Cond) ∈ jw := jin (jt_2 _ (List.mem_of_getElem? (i := 182) (by decide +kernel))) (by decide +kernel)
set_option maxRecDepth 100000 in
theorem m_83 : (.initialized RX0 : Cond) ∈ jw := jin (jt_1 _ (List.mem_of_getElem? (i := 13) (by decide +kernel))) (by decide +kernel)
set_option maxRecDepth 100000 in
theorem m_84 : (.code yX0_isDigit cX0_isDigit 1 (some .boolean) : Cond) ∈ jw := jin (jt_2 _ (List.mem_of_getElem? (i := 183) (by decide +kernel))) (by decide +kernel)
set_option maxRecDepth 100000 in
theorem m_85 : (.methodLink RX0 44 yX0_byteOf : Cond) ∈ jw := jin (jt_4 _ (List.mem_of_getElem? (i := 91) (by decide +kernel))) (by decide +kernel)
set_option maxRecDepth 100000 in
theorem m_86 : (.static yX0_byteOf : Cond) ∈ jw := jin (jt_4 _ (List.mem_of_getElem? (i := 92) (by decide +kernel))) (by decide +kernel)
set_option maxRecDepth 100000 in
theorem m_87 : (.code yX0_byteOf cX0_byteOf 5 (some .int) : Cond) ∈ jw := jin (jt_4 _ (List.mem_of_getElem? (i := 93) (by decide +kernel))) (by decide +kernel)
set_option maxRecDepth 100000 in
theorem m_88 : (.methodLink RX0 48 yX0_isMark : Cond) ∈ jw := jin (jt_4 _ (List.mem_of_getElem? (i := 94) (by decide +kernel))) (by decide +kernel)
set_option maxRecDepth 100000 in
theorem m_89 : (.static yX0_isMark : Cond) ∈ jw := jin (jt_4 _ (List.mem_of_getElem? (i := 95) (by decide +kernel))) (by decide +kernel)
set_option maxRecDepth 100000 in
theorem m_90 : (.code yX0_isMark cX0_isMark 1 (some .boolean) : Cond) ∈ jw := jin (jt_4 _ (List.mem_of_getElem? (i := 96) (by decide +kernel))) (by decide +kernel)
set_option maxRecDepth 100000 in
theorem m_91 : (.fieldLink RX0 36 "BookOfAll$Entry" "heading" "[B" : Cond) ∈ jw := jin (jt_4 _ (List.mem_of_getElem? (i := 109) (by decide +kernel))) (by decide +kernel)
set_option maxRecDepth 100000 in
theorem m_92 : (.fieldLink RX0 55 "BookOfAll$Entry" "secondWord" "I" : Cond) ∈ jw := jin (jt_4 _ (List.mem_of_getElem? (i := 113) (by decide +kernel))) (by decide +kernel)
set_option maxRecDepth 100000 in
theorem m_93 : (.fieldLink RX0 51 "BookOfAll$Entry" "firstWord" "J" : Cond) ∈ jw := jin (jt_4 _ (List.mem_of_getElem? (i := 111) (by decide +kernel))) (by decide +kernel)
set_option maxRecDepth 100000 in
theorem m_94 : (.methodLink RX13 284 yX13_isLetter : Cond) ∈ jw := jin (jt_8 _ (List.mem_of_getElem? (i := 151) (by decide +kernel))) (by decide +kernel)
set_option maxRecDepth 100000 in
theorem m_95 : (.static yX13_isLetter : Cond) ∈ jw := jin (jt_8 _ (List.mem_of_getElem? (i := 152) (by decide +kernel))) (by decide +kernel)
set_option maxRecDepth 100000 in
theorem m_96 : (.initialized RX13 : Cond) ∈ jw := jin (jt_1 _ (List.mem_of_getElem? (i := 12) (by decide +kernel))) (by decide +kernel)
set_option maxRecDepth 100000 in
theorem m_97 : (.code yX13_isLetter cX13_isLetter 1 (some .boolean) : Cond) ∈ jw := jin (jt_8 _ (List.mem_of_getElem? (i := 153) (by decide +kernel))) (by decide +kernel)
set_option maxRecDepth 100000 in
theorem m_98 : (.methodLink RX13 292 yX13_isDigit : Cond) ∈ jw := jin (jt_8 _ (List.mem_of_getElem? (i := 161) (by decide +kernel))) (by decide +kernel)
set_option maxRecDepth 100000 in
theorem m_99 : (.static yX13_isDigit : Cond) ∈ jw := jin (jt_8 _ (List.mem_of_getElem? (i := 162) (by decide +kernel))) (by decide +kernel)
set_option maxRecDepth 100000 in
theorem m_100 : (.code yX13_isDigit cX13_isDigit 1 (some .boolean) : Cond) ∈ jw := jin (jt_8 _ (List.mem_of_getElem? (i := 163) (by decide +kernel))) (by decide +kernel)
set_option maxRecDepth 100000 in
theorem m_101 : (.fieldLink RX12 10 "BookOfAll" "reader" "LBookOfAll$Reader;" : Cond) ∈ jw := jin (jt_2 _ (List.mem_of_getElem? (i := 87) (by decide +kernel))) (by decide +kernel)
set_option maxRecDepth 100000 in
theorem m_102 : (.fieldLink RX12 103 "BookOfAll$Reader" "size" "I" : Cond) ∈ jw := jin (jt_1 _ (List.mem_of_getElem? (i := 40) (by decide +kernel))) (by decide +kernel)
set_option maxRecDepth 100000 in
theorem m_103 : (.fieldLink RX7 43 "BookOfAll$Reader" "size" "I" : Cond) ∈ jw := jin (jt_1 _ (List.mem_of_getElem? (i := 41) (by decide +kernel))) (by decide +kernel)
set_option maxRecDepth 100000 in
theorem m_104 : (.fieldLink RX7 11 "BookOfAll$Reader" "bytes" "[B" : Cond) ∈ jw := jin (jt_1 _ (List.mem_of_getElem? (i := 39) (by decide +kernel))) (by decide +kernel)
set_option maxRecDepth 100000 in
theorem m_105 : (.methodLink RX12 107 yX7_append : Cond) ∈ jw := jin (jt_2 _ (List.mem_of_getElem? (i := 150) (by decide +kernel))) (by decide +kernel)
set_option maxRecDepth 100000 in
theorem m_106 : (.instanceMethod yX7_append : Cond) ∈ jw := jin (jt_2 _ (List.mem_of_getElem? (i := 151) (by decide +kernel))) (by decide +kernel)
set_option maxRecDepth 100000 in
theorem m_107 : (.selects RX7 yX7_append yX7_append : Cond) ∈ jw := jin (jt_2 _ (List.mem_of_getElem? (i := 152) (by decide +kernel))) (by decide +kernel)
set_option maxRecDepth 100000 in
theorem m_108 : (.initialized RX7 : Cond) ∈ jw := jin (jt_1 _ (List.mem_of_getElem? (i := 2) (by decide +kernel))) (by decide +kernel)
set_option maxRecDepth 100000 in
theorem m_109 : (.code yX7_append cX7_append 3 none : Cond) ∈ jw := jin (jt_2 _ (List.mem_of_getElem? (i := 153) (by decide +kernel))) (by decide +kernel)
set_option maxRecDepth 100000 in
theorem m_110 : (.fieldLink RX7 106 "BookOfAll$Reader" "tokens" "I" : Cond) ∈ jw := jin (jt_1 _ (List.mem_of_getElem? (i := 46) (by decide +kernel))) (by decide +kernel)
set_option maxRecDepth 100000 in
theorem m_111 : (.methodLink RX7 109 yX7_byteAt : Cond) ∈ jw := jin (jt_2 _ (List.mem_of_getElem? (i := 170) (by decide +kernel))) (by decide +kernel)
set_option maxRecDepth 100000 in
theorem m_112 : (.instanceMethod yX7_byteAt : Cond) ∈ jw := jin (jt_2 _ (List.mem_of_getElem? (i := 172) (by decide +kernel))) (by decide +kernel)
set_option maxRecDepth 100000 in
theorem m_113 : (.selects RX7 yX7_byteAt yX7_byteAt : Cond) ∈ jw := jin (jt_p _ (List.mem_of_getElem? (i := 1) (by decide +kernel))) (by decide +kernel)
set_option maxRecDepth 100000 in
theorem m_114 : (.code yX7_byteAt cX7_byteAt 2 (some .int) : Cond) ∈ jw := jin (jt_2 _ (List.mem_of_getElem? (i := 173) (by decide +kernel))) (by decide +kernel)
set_option maxRecDepth 100000 in
theorem m_115 : (.methodLink RX7 112 yX7_kindAt : Cond) ∈ jw := jin (jt_2 _ (List.mem_of_getElem? (i := 174) (by decide +kernel))) (by decide +kernel)
set_option maxRecDepth 100000 in
theorem m_116 : (.instanceMethod yX7_kindAt : Cond) ∈ jw := jin (jt_2 _ (List.mem_of_getElem? (i := 176) (by decide +kernel))) (by decide +kernel)
set_option maxRecDepth 100000 in
theorem m_117 : (.selects RX7 yX7_kindAt yX7_kindAt : Cond) ∈ jw := jin (jt_p _ (List.mem_of_getElem? (i := 2) (by decide +kernel))) (by decide +kernel)
set_option maxRecDepth 100000 in
theorem m_118 : (.code yX7_kindAt cX7_kindAt 3 (some .int) : Cond) ∈ jw := jin (jt_2 _ (List.mem_of_getElem? (i := 177) (by decide +kernel))) (by decide +kernel)
set_option maxRecDepth 100000 in
theorem m_119 : (.methodLink RX7 115 yX7_stopAt : Cond) ∈ jw := jin (jt_3 _ (List.mem_of_getElem? (i := 32) (by decide +kernel))) (by decide +kernel)
set_option maxRecDepth 100000 in
theorem m_120 : (.instanceMethod yX7_stopAt : Cond) ∈ jw := jin (jt_3 _ (List.mem_of_getElem? (i := 34) (by decide +kernel))) (by decide +kernel)
set_option maxRecDepth 100000 in
theorem m_121 : (.selects RX7 yX7_stopAt yX7_stopAt : Cond) ∈ jw := jin (jt_p _ (List.mem_of_getElem? (i := 3) (by decide +kernel))) (by decide +kernel)
set_option maxRecDepth 100000 in
theorem m_122 : (.code yX7_stopAt cX7_stopAt 4 (some .int) : Cond) ∈ jw := jin (jt_3 _ (List.mem_of_getElem? (i := 35) (by decide +kernel))) (by decide +kernel)
set_option maxRecDepth 100000 in
theorem m_123 : (.fieldLink RX7 15 "BookOfAll$Reader" "kinds" "[I" : Cond) ∈ jw := jin (jt_1 _ (List.mem_of_getElem? (i := 42) (by decide +kernel))) (by decide +kernel)
set_option maxRecDepth 100000 in
theorem m_124 : (.fieldLink RX7 19 "BookOfAll$Reader" "starts" "[I" : Cond) ∈ jw := jin (jt_1 _ (List.mem_of_getElem? (i := 43) (by decide +kernel))) (by decide +kernel)
set_option maxRecDepth 100000 in
theorem m_125 : (.fieldLink RX7 22 "BookOfAll$Reader" "stops" "[I" : Cond) ∈ jw := jin (jt_1 _ (List.mem_of_getElem? (i := 44) (by decide +kernel))) (by decide +kernel)
set_option maxRecDepth 100000 in
theorem m_126 : (.fieldLink RX7 25 "BookOfAll$Reader" "values" "[I" : Cond) ∈ jw := jin (jt_1 _ (List.mem_of_getElem? (i := 45) (by decide +kernel))) (by decide +kernel)
set_option maxRecDepth 100000 in
theorem m_127 : (.methodLink RX7 118 yX7_addToken : Cond) ∈ jw := jin (jt_3 _ (List.mem_of_getElem? (i := 36) (by decide +kernel))) (by decide +kernel)
set_option maxRecDepth 100000 in
theorem m_128 : (.instanceMethod yX7_addToken : Cond) ∈ jw := jin (jt_3 _ (List.mem_of_getElem? (i := 38) (by decide +kernel))) (by decide +kernel)
set_option maxRecDepth 100000 in
theorem m_129 : (.selects RX7 yX7_addToken yX7_addToken : Cond) ∈ jw := jin (jt_p _ (List.mem_of_getElem? (i := 4) (by decide +kernel))) (by decide +kernel)
set_option maxRecDepth 100000 in
theorem m_130 : (.code yX7_addToken cX7_addToken 4 none : Cond) ∈ jw := jin (jt_3 _ (List.mem_of_getElem? (i := 39) (by decide +kernel))) (by decide +kernel)
set_option maxRecDepth 100000 in
theorem m_131 : (.methodLink RX7 47 yX7_scan : Cond) ∈ jw := jin (jt_2 _ (List.mem_of_getElem? (i := 166) (by decide +kernel))) (by decide +kernel)
set_option maxRecDepth 100000 in
theorem m_132 : (.instanceMethod yX7_scan : Cond) ∈ jw := jin (jt_2 _ (List.mem_of_getElem? (i := 168) (by decide +kernel))) (by decide +kernel)
set_option maxRecDepth 100000 in
theorem m_133 : (.selects RX7 yX7_scan yX7_scan : Cond) ∈ jw := jin (jt_p _ (List.mem_of_getElem? (i := 0) (by decide +kernel))) (by decide +kernel)
set_option maxRecDepth 100000 in
theorem m_134 : (.code yX7_scan cX7_scan 5 none : Cond) ∈ jw := jin (jt_2 _ (List.mem_of_getElem? (i := 169) (by decide +kernel))) (by decide +kernel)
set_option maxRecDepth 100000 in
theorem m_135 : (.fieldLink RX7 50 "BookOfAll$Reader" "fault" "I" : Cond) ∈ jw := jin (jt_1 _ (List.mem_of_getElem? (i := 48) (by decide +kernel))) (by decide +kernel)
set_option maxRecDepth 100000 in
theorem m_136 : (.fieldLink RX7 53 "BookOfAll$Reader" "next" "I" : Cond) ∈ jw := jin (jt_1 _ (List.mem_of_getElem? (i := 47) (by decide +kernel))) (by decide +kernel)
set_option maxRecDepth 100000 in
theorem m_137 : (.fieldLink RX7 56 "BookOfAll$Reader" "codeSize" "I" : Cond) ∈ jw := jin (jt_1 _ (List.mem_of_getElem? (i := 50) (by decide +kernel))) (by decide +kernel)
set_option maxRecDepth 100000 in
theorem m_138 : (.fieldLink RX7 59 "BookOfAll$Reader" "wordCount" "I" : Cond) ∈ jw := jin (jt_1 _ (List.mem_of_getElem? (i := 54) (by decide +kernel))) (by decide +kernel)
set_option maxRecDepth 100000 in
theorem m_139 : (.fieldLink RX7 33 "BookOfAll$Reader" "from" "[I" : Cond) ∈ jw := jin (jt_1 _ (List.mem_of_getElem? (i := 51) (by decide +kernel))) (by decide +kernel)
set_option maxRecDepth 100000 in
theorem m_140 : (.methodLink RX7 62 yJ7_fill_53178 : Cond) ∈ jw := jin (jt_3 _ (List.mem_of_getElem? (i := 75) (by decide +kernel))) (by decide +kernel)
set_option maxRecDepth 100000 in
theorem m_141 : (.static yJ7_fill_53178 : Cond) ∈ jw := jin (jt_1 _ (List.mem_of_getElem? (i := 199) (by decide +kernel))) (by decide +kernel)
set_option maxRecDepth 100000 in
theorem m_142 : (.initialized RJ7 : Cond) ∈ jw := jin (jt_1 _ (List.mem_of_getElem? (i := 8) (by decide +kernel))) (by decide +kernel)
set_option maxRecDepth 100000 in
theorem m_143 : (.code yJ7_fill_53178 cJ7_fill_53178 4 none : Cond) ∈ jw := jin (jt_1 _ (List.mem_of_getElem? (i := 200) (by decide +kernel))) (by decide +kernel)
set_option maxRecDepth 100000 in
theorem m_144 : (.methodLink RX7 68 yX7_kind : Cond) ∈ jw := jin (jt_3 _ (List.mem_of_getElem? (i := 76) (by decide +kernel))) (by decide +kernel)
set_option maxRecDepth 100000 in
theorem m_145 : (.instanceMethod yX7_kind : Cond) ∈ jw := jin (jt_3 _ (List.mem_of_getElem? (i := 78) (by decide +kernel))) (by decide +kernel)
set_option maxRecDepth 100000 in
theorem m_146 : (.selects RX7 yX7_kind yX7_kind : Cond) ∈ jw := jin (jt_p _ (List.mem_of_getElem? (i := 8) (by decide +kernel))) (by decide +kernel)
set_option maxRecDepth 100000 in
theorem m_147 : (.code yX7_kind cX7_kind 1 (some .int) : Cond) ∈ jw := jin (jt_3 _ (List.mem_of_getElem? (i := 79) (by decide +kernel))) (by decide +kernel)
set_option maxRecDepth 100000 in
theorem m_148 : (.methodLink RX12 110 yX7_parse : Cond) ∈ jw := jin (jt_2 _ (List.mem_of_getElem? (i := 162) (by decide +kernel))) (by decide +kernel)
set_option maxRecDepth 100000 in
theorem m_149 : (.instanceMethod yX7_parse : Cond) ∈ jw := jin (jt_2 _ (List.mem_of_getElem? (i := 163) (by decide +kernel))) (by decide +kernel)
set_option maxRecDepth 100000 in
theorem m_150 : (.selects RX7 yX7_parse yX7_parse : Cond) ∈ jw := jin (jt_2 _ (List.mem_of_getElem? (i := 164) (by decide +kernel))) (by decide +kernel)
set_option maxRecDepth 100000 in
theorem m_151 : (.code yX7_parse cX7_parse 2 (some .int) : Cond) ∈ jw := jin (jt_2 _ (List.mem_of_getElem? (i := 165) (by decide +kernel))) (by decide +kernel)
set_option maxRecDepth 100000 in
theorem m_152 : (.fieldLink RX12 19 "BookOfAll" "rules" "LBookOfAll$Rules;" : Cond) ∈ jw := jin (jt_2 _ (List.mem_of_getElem? (i := 88) (by decide +kernel))) (by decide +kernel)
set_option maxRecDepth 100000 in
theorem m_153 : (.fieldLink RX8 33 "BookOfAll$Rules" "sheetCount" "I" : Cond) ∈ jw := jin (jt_1 _ (List.mem_of_getElem? (i := 98) (by decide +kernel))) (by decide +kernel)
set_option maxRecDepth 100000 in
theorem m_154 : (.methodLink RX12 114 yX8_hasRoomForSheet : Cond) ∈ jw := jin (jt_3 _ (List.mem_of_getElem? (i := 152) (by decide +kernel))) (by decide +kernel)
set_option maxRecDepth 100000 in
theorem m_155 : (.instanceMethod yX8_hasRoomForSheet : Cond) ∈ jw := jin (jt_3 _ (List.mem_of_getElem? (i := 153) (by decide +kernel))) (by decide +kernel)
set_option maxRecDepth 100000 in
theorem m_156 : (.selects RX8 yX8_hasRoomForSheet yX8_hasRoomForSheet : Cond) ∈ jw := jin (jt_3 _ (List.mem_of_getElem? (i := 154) (by decide +kernel))) (by decide +kernel)
set_option maxRecDepth 100000 in
theorem m_157 : (.initialized RX8 : Cond) ∈ jw := jin (jt_1 _ (List.mem_of_getElem? (i := 3) (by decide +kernel))) (by decide +kernel)
set_option maxRecDepth 100000 in
theorem m_158 : (.code yX8_hasRoomForSheet cX8_hasRoomForSheet 1 (some .boolean) : Cond) ∈ jw := jin (jt_3 _ (List.mem_of_getElem? (i := 155) (by decide +kernel))) (by decide +kernel)
set_option maxRecDepth 100000 in
theorem m_159 : (.classLink RX7 31 RX9 : Cond) ∈ jw := jin (jt_3 _ (List.mem_of_getElem? (i := 160) (by decide +kernel))) (by decide +kernel)
set_option maxRecDepth 100000 in
theorem m_160 : (.instantiable RX9 4 : Cond) ∈ jw := jin (jt_3 _ (List.mem_of_getElem? (i := 161) (by decide +kernel))) (by decide +kernel)
set_option maxRecDepth 100000 in
theorem m_161 : (.initialized RX9 : Cond) ∈ jw := jin (jt_1 _ (List.mem_of_getElem? (i := 19) (by decide +kernel))) (by decide +kernel)
set_option maxRecDepth 100000 in
theorem m_162 : (.methodLink RX9 3 objectInit : Cond) ∈ jw := jin (jt_3 _ (List.mem_of_getElem? (i := 165) (by decide +kernel))) (by decide +kernel)
set_option maxRecDepth 100000 in
theorem m_163 : (.instanceMethod objectInit : Cond) ∈ jw := jin (jt_1 _ (List.mem_of_getElem? (i := 31) (by decide +kernel))) (by decide +kernel)
set_option maxRecDepth 100000 in
theorem m_164 : (.code objectInit ⟨#[0xb1]⟩ 1 none : Cond) ∈ jw := jin (jt_1 _ (List.mem_of_getElem? (i := 32) (by decide +kernel))) (by decide +kernel)
set_option maxRecDepth 100000 in
theorem m_165 : (.code yX9_init cX9_init 1 none : Cond) ∈ jw := jin (jt_3 _ (List.mem_of_getElem? (i := 164) (by decide +kernel))) (by decide +kernel)
set_option maxRecDepth 100000 in
theorem m_166 : (.instanceMethod yX9_init : Cond) ∈ jw := jin (jt_3 _ (List.mem_of_getElem? (i := 163) (by decide +kernel))) (by decide +kernel)
set_option maxRecDepth 100000 in
theorem m_167 : (.fieldLink RX7 28 "BookOfAll$Reader" "code" "[I" : Cond) ∈ jw := jin (jt_1 _ (List.mem_of_getElem? (i := 49) (by decide +kernel))) (by decide +kernel)
set_option maxRecDepth 100000 in
theorem m_168 : (.methodLink RX7 76 Lib.Math.max.name : Cond) ∈ jw := jin (jt_3 _ (List.mem_of_getElem? (i := 184) (by decide +kernel))) (by decide +kernel)
set_option maxRecDepth 100000 in
theorem m_169 : (.static Lib.Math.max.name : Cond) ∈ jw := jin (jt_2 _ (List.mem_of_getElem? (i := 217) (by decide +kernel))) (by decide +kernel)
set_option maxRecDepth 100000 in
theorem m_170 : (.initialized "java/lang/Math" : Cond) ∈ jw := jin (jt_1 _ (List.mem_of_getElem? (i := 6) (by decide +kernel))) (by decide +kernel)
set_option maxRecDepth 100000 in
theorem m_171 : (.code Lib.Math.max.name Lib.Math.max.code 2 (some .int) : Cond) ∈ jw := jin (jt_2 _ (List.mem_of_getElem? (i := 218) (by decide +kernel))) (by decide +kernel)
set_option maxRecDepth 100000 in
theorem m_172 : (.methodLink RJ7 304 Lib.Math.min.name : Cond) ∈ jw := jin (jt_3 _ (List.mem_of_getElem? (i := 195) (by decide +kernel))) (by decide +kernel)
set_option maxRecDepth 100000 in
theorem m_173 : (.static Lib.Math.min.name : Cond) ∈ jw := jin (jt_1 _ (List.mem_of_getElem? (i := 157) (by decide +kernel))) (by decide +kernel)
set_option maxRecDepth 100000 in
theorem m_174 : (.code Lib.Math.min.name Lib.Math.min.code 2 (some .int) : Cond) ∈ jw := jin (jt_1 _ (List.mem_of_getElem? (i := 158) (by decide +kernel))) (by decide +kernel)
set_option maxRecDepth 100000 in
theorem m_175 : (.methodLink RJ7 150 arraycopyName : Cond) ∈ jw := jin (jt_3 _ (List.mem_of_getElem? (i := 196) (by decide +kernel))) (by decide +kernel)
set_option maxRecDepth 100000 in
theorem m_176 : (.native arraycopyName : Cond) ∈ jw := jin (jt_3 _ (List.mem_of_getElem? (i := 198) (by decide +kernel))) (by decide +kernel)
set_option maxRecDepth 100000 in
theorem m_177 : (.static arraycopyName : Cond) ∈ jw := jin (jt_3 _ (List.mem_of_getElem? (i := 197) (by decide +kernel))) (by decide +kernel)
set_option maxRecDepth 100000 in
theorem m_178 : (.initialized "java/lang/System" : Cond) ∈ jw := jin (jt_1 _ (List.mem_of_getElem? (i := 20) (by decide +kernel))) (by decide +kernel)
set_option maxRecDepth 100000 in
theorem m_179 : (.methodLink RX7 82 yJ7_copyOf_59c91 : Cond) ∈ jw := jin (jt_3 _ (List.mem_of_getElem? (i := 185) (by decide +kernel))) (by decide +kernel)
set_option maxRecDepth 100000 in
theorem m_180 : (.static yJ7_copyOf_59c91 : Cond) ∈ jw := jin (jt_3 _ (List.mem_of_getElem? (i := 186) (by decide +kernel))) (by decide +kernel)
set_option maxRecDepth 100000 in
theorem m_181 : (.code yJ7_copyOf_59c91 cJ7_copyOf_59c91 3 (some (.array .int)) : Cond) ∈ jw := jin (jt_3 _ (List.mem_of_getElem? (i := 187) (by decide +kernel))) (by decide +kernel)
set_option maxRecDepth 100000 in
theorem m_182 : (.fieldLink RX7 86 "BookOfAll$Sheet" "code" "[I" : Cond) ∈ jw := jin (jt_3 _ (List.mem_of_getElem? (i := 166) (by decide +kernel))) (by decide +kernel)
set_option maxRecDepth 100000 in
theorem m_183 : (.methodLink RX7 87 ⟨"[I", "clone", "()Ljava/lang/Object;"⟩ : Cond) ∈ jw := jin (jt_3 _ (List.mem_of_getElem? (i := 199) (by decide +kernel))) (by decide +kernel)
set_option maxRecDepth 100000 in
theorem m_184 : (.sameMethod "[I" "java/lang/Object" "clone" "()Ljava/lang/Object;" : Cond) ∈ jw := jin (jt_3 _ (List.mem_of_getElem? (i := 189) (by decide +kernel))) (by decide +kernel)
set_option maxRecDepth 100000 in
theorem m_185 : (.native ⟨"java/lang/Object", "clone", "()Ljava/lang/Object;"⟩ : Cond) ∈ jw := jin (jt_3 _ (List.mem_of_getElem? (i := 190) (by decide +kernel))) (by decide +kernel)
set_option maxRecDepth 100000 in
theorem m_186 : (.instanceMethod ⟨"java/lang/Object", "clone", "()Ljava/lang/Object;"⟩ : Cond) ∈ jw := jin (jt_3 _ (List.mem_of_getElem? (i := 191) (by decide +kernel))) (by decide +kernel)
set_option maxRecDepth 100000 in
theorem m_187 : (.selects "[I" ⟨"[I", "clone", "()Ljava/lang/Object;"⟩ ⟨"java/lang/Object", "clone", "()Ljava/lang/Object;"⟩ : Cond) ∈ jw := jin (jt_3 _ (List.mem_of_getElem? (i := 192) (by decide +kernel))) (by decide +kernel)
set_option maxRecDepth 100000 in
theorem m_188 : (.classLink RX7 88 "[I" : Cond) ∈ jw := jin (jt_3 _ (List.mem_of_getElem? (i := 200) (by decide +kernel))) (by decide +kernel)
set_option maxRecDepth 100000 in
theorem m_189 : (.fieldLink RX7 92 "BookOfAll$Sheet" "from" "[I" : Cond) ∈ jw := jin (jt_3 _ (List.mem_of_getElem? (i := 169) (by decide +kernel))) (by decide +kernel)
set_option maxRecDepth 100000 in
theorem m_190 : (.fieldLink RX7 36 "BookOfAll$Reader" "to" "[I" : Cond) ∈ jw := jin (jt_1 _ (List.mem_of_getElem? (i := 52) (by decide +kernel))) (by decide +kernel)
set_option maxRecDepth 100000 in
theorem m_191 : (.fieldLink RX7 93 "BookOfAll$Sheet" "to" "[I" : Cond) ∈ jw := jin (jt_3 _ (List.mem_of_getElem? (i := 171) (by decide +kernel))) (by decide +kernel)
set_option maxRecDepth 100000 in
theorem m_192 : (.fieldLink RX7 39 "BookOfAll$Reader" "words" "[J" : Cond) ∈ jw := jin (jt_1 _ (List.mem_of_getElem? (i := 53) (by decide +kernel))) (by decide +kernel)
set_option maxRecDepth 100000 in
theorem m_193 : (.arrayClass .long : Cond) ∈ jw := jin (jt_1 _ (List.mem_of_getElem? (i := 88) (by decide +kernel))) (by decide +kernel)
set_option maxRecDepth 100000 in
theorem m_194 : (.methodLink RX7 94 yJ7_copyOf_c38d5 : Cond) ∈ jw := jin (jt_3 _ (List.mem_of_getElem? (i := 201) (by decide +kernel))) (by decide +kernel)
set_option maxRecDepth 100000 in
theorem m_195 : (.static yJ7_copyOf_c38d5 : Cond) ∈ jw := jin (jt_3 _ (List.mem_of_getElem? (i := 202) (by decide +kernel))) (by decide +kernel)
set_option maxRecDepth 100000 in
theorem m_196 : (.code yJ7_copyOf_c38d5 cJ7_copyOf_c38d5 3 (some (.array .long)) : Cond) ∈ jw := jin (jt_3 _ (List.mem_of_getElem? (i := 203) (by decide +kernel))) (by decide +kernel)
set_option maxRecDepth 100000 in
theorem m_197 : (.fieldLink RX7 97 "BookOfAll$Sheet" "words" "[J" : Cond) ∈ jw := jin (jt_3 _ (List.mem_of_getElem? (i := 174) (by decide +kernel))) (by decide +kernel)
set_option maxRecDepth 100000 in
theorem m_198 : (.methodLink RX12 118 yX7_compiled : Cond) ∈ jw := jin (jt_3 _ (List.mem_of_getElem? (i := 156) (by decide +kernel))) (by decide +kernel)
set_option maxRecDepth 100000 in
theorem m_199 : (.instanceMethod yX7_compiled : Cond) ∈ jw := jin (jt_3 _ (List.mem_of_getElem? (i := 157) (by decide +kernel))) (by decide +kernel)
set_option maxRecDepth 100000 in
theorem m_200 : (.selects RX7 yX7_compiled yX7_compiled : Cond) ∈ jw := jin (jt_3 _ (List.mem_of_getElem? (i := 158) (by decide +kernel))) (by decide +kernel)
set_option maxRecDepth 100000 in
theorem m_201 : (.code yX7_compiled cX7_compiled 2 (some (.object "BookOfAll$Sheet")) : Cond) ∈ jw := jin (jt_3 _ (List.mem_of_getElem? (i := 159) (by decide +kernel))) (by decide +kernel)
set_option maxRecDepth 100000 in
theorem m_202 : (.fieldLink RX8 13 "BookOfAll$Rules" "sheets" "[LBookOfAll$Sheet;" : Cond) ∈ jw := jin (jt_1 _ (List.mem_of_getElem? (i := 97) (by decide +kernel))) (by decide +kernel)
set_option maxRecDepth 100000 in
theorem m_203 : (.methodLink RX12 122 yX8_keep : Cond) ∈ jw := jin (jt_3 _ (List.mem_of_getElem? (i := 209) (by decide +kernel))) (by decide +kernel)
set_option maxRecDepth 100000 in
theorem m_204 : (.instanceMethod yX8_keep : Cond) ∈ jw := jin (jt_3 _ (List.mem_of_getElem? (i := 210) (by decide +kernel))) (by decide +kernel)
set_option maxRecDepth 100000 in
theorem m_205 : (.selects RX8 yX8_keep yX8_keep : Cond) ∈ jw := jin (jt_3 _ (List.mem_of_getElem? (i := 211) (by decide +kernel))) (by decide +kernel)
set_option maxRecDepth 100000 in
theorem m_206 : (.code yX8_keep cX8_keep 2 (some .int) : Cond) ∈ jw := jin (jt_3 _ (List.mem_of_getElem? (i := 212) (by decide +kernel))) (by decide +kernel)
set_option maxRecDepth 100000 in
theorem m_207 : (.methodLink RX12 126 yX12_isVolume : Cond) ∈ jw := jin (jt_3 _ (List.mem_of_getElem? (i := 217) (by decide +kernel))) (by decide +kernel)
set_option maxRecDepth 100000 in
theorem m_208 : (.instanceMethod yX12_isVolume : Cond) ∈ jw := jin (jt_3 _ (List.mem_of_getElem? (i := 219) (by decide +kernel))) (by decide +kernel)
set_option maxRecDepth 100000 in
theorem m_209 : (.selects RX12 yX12_isVolume yX12_isVolume : Cond) ∈ jw := jin (jt_p _ (List.mem_of_getElem? (i := 26) (by decide +kernel))) (by decide +kernel)
set_option maxRecDepth 100000 in
theorem m_210 : (.initialized RX12 : Cond) ∈ jw := jin (jt_1 _ (List.mem_of_getElem? (i := 1) (by decide +kernel))) (by decide +kernel)
set_option maxRecDepth 100000 in
theorem m_211 : (.code yX12_isVolume cX12_isVolume 2 (some .boolean) : Cond) ∈ jw := jin (jt_3 _ (List.mem_of_getElem? (i := 220) (by decide +kernel))) (by decide +kernel)
set_option maxRecDepth 100000 in
theorem m_212 : (.fieldLink RX12 158 "BookOfAll" "setBits" "I" : Cond) ∈ jw := jin (jt_2 _ (List.mem_of_getElem? (i := 86) (by decide +kernel))) (by decide +kernel)
set_option maxRecDepth 100000 in
theorem m_213 : (.methodLink RX12 130 yX12_isSet : Cond) ∈ jw := jin (jt_3 _ (List.mem_of_getElem? (i := 221) (by decide +kernel))) (by decide +kernel)
set_option maxRecDepth 100000 in
theorem m_214 : (.instanceMethod yX12_isSet : Cond) ∈ jw := jin (jt_3 _ (List.mem_of_getElem? (i := 223) (by decide +kernel))) (by decide +kernel)
set_option maxRecDepth 100000 in
theorem m_215 : (.selects RX12 yX12_isSet yX12_isSet : Cond) ∈ jw := jin (jt_p _ (List.mem_of_getElem? (i := 27) (by decide +kernel))) (by decide +kernel)
set_option maxRecDepth 100000 in
theorem m_216 : (.code yX12_isSet cX12_isSet 2 (some .boolean) : Cond) ∈ jw := jin (jt_3 _ (List.mem_of_getElem? (i := 224) (by decide +kernel))) (by decide +kernel)
set_option maxRecDepth 100000 in
theorem m_217 : (.fieldLink RX12 133 "BookOfAll" "now" "I" : Cond) ∈ jw := jin (jt_2 _ (List.mem_of_getElem? (i := 85) (by decide +kernel))) (by decide +kernel)
set_option maxRecDepth 100000 in
theorem m_218 : (.methodLink RX12 136 yX8_put : Cond) ∈ jw := jin (jt_3 _ (List.mem_of_getElem? (i := 225) (by decide +kernel))) (by decide +kernel)
set_option maxRecDepth 100000 in
theorem m_219 : (.instanceMethod yX8_put : Cond) ∈ jw := jin (jt_3 _ (List.mem_of_getElem? (i := 226) (by decide +kernel))) (by decide +kernel)
set_option maxRecDepth 100000 in
theorem m_220 : (.selects RX8 yX8_put yX8_put : Cond) ∈ jw := jin (jt_3 _ (List.mem_of_getElem? (i := 227) (by decide +kernel))) (by decide +kernel)
set_option maxRecDepth 100000 in
theorem m_221 : (.code yX8_put cX8_put 4 (some .int) : Cond) ∈ jw := jin (jt_3 _ (List.mem_of_getElem? (i := 228) (by decide +kernel))) (by decide +kernel)
set_option maxRecDepth 100000 in
theorem m_222 : (.methodLink RX12 143 yX9_sortOf : Cond) ∈ jw := jin (jt_4 _ (List.mem_of_getElem? (i := 67) (by decide +kernel))) (by decide +kernel)
set_option maxRecDepth 100000 in
theorem m_223 : (.static yX9_sortOf : Cond) ∈ jw := jin (jt_4 _ (List.mem_of_getElem? (i := 68) (by decide +kernel))) (by decide +kernel)
set_option maxRecDepth 100000 in
theorem m_224 : (.code yX9_sortOf cX9_sortOf 3 (some .int) : Cond) ∈ jw := jin (jt_4 _ (List.mem_of_getElem? (i := 69) (by decide +kernel))) (by decide +kernel)
set_option maxRecDepth 100000 in
theorem m_225 : (.fieldLink RX8 37 "BookOfAll$Rules" "puts" "I" : Cond) ∈ jw := jin (jt_1 _ (List.mem_of_getElem? (i := 103) (by decide +kernel))) (by decide +kernel)
set_option maxRecDepth 100000 in
theorem m_226 : (.methodLink RX12 149 yX8_inForce : Cond) ∈ jw := jin (jt_4 _ (List.mem_of_getElem? (i := 70) (by decide +kernel))) (by decide +kernel)
set_option maxRecDepth 100000 in
theorem m_227 : (.instanceMethod yX8_inForce : Cond) ∈ jw := jin (jt_4 _ (List.mem_of_getElem? (i := 4) (by decide +kernel))) (by decide +kernel)
set_option maxRecDepth 100000 in
theorem m_228 : (.selects RX8 yX8_inForce yX8_inForce : Cond) ∈ jw := jin (jt_4 _ (List.mem_of_getElem? (i := 5) (by decide +kernel))) (by decide +kernel)
set_option maxRecDepth 100000 in
theorem m_229 : (.code yX8_inForce cX8_inForce 6 (some .int) : Cond) ∈ jw := jin (jt_4 _ (List.mem_of_getElem? (i := 6) (by decide +kernel))) (by decide +kernel)
set_option maxRecDepth 100000 in
theorem m_230 : (.methodLink RX12 152 Lib.Math.min.name : Cond) ∈ jw := jin (jt_4 _ (List.mem_of_getElem? (i := 75) (by decide +kernel))) (by decide +kernel)
set_option maxRecDepth 100000 in
theorem m_231 : (.fieldLink RX12 34 "BookOfAll" "volumes" "[LBookOfAll$Volume;" : Cond) ∈ jw := jin (jt_2 _ (List.mem_of_getElem? (i := 90) (by decide +kernel))) (by decide +kernel)
set_option maxRecDepth 100000 in
theorem m_232 : (.methodLink RX12 166 yX12_volumeAt : Cond) ∈ jw := jin (jt_4 _ (List.mem_of_getElem? (i := 59) (by decide +kernel))) (by decide +kernel)
set_option maxRecDepth 100000 in
theorem m_233 : (.instanceMethod yX12_volumeAt : Cond) ∈ jw := jin (jt_4 _ (List.mem_of_getElem? (i := 61) (by decide +kernel))) (by decide +kernel)
set_option maxRecDepth 100000 in
theorem m_234 : (.selects RX12 yX12_volumeAt yX12_volumeAt : Cond) ∈ jw := jin (jt_p _ (List.mem_of_getElem? (i := 34) (by decide +kernel))) (by decide +kernel)
set_option maxRecDepth 100000 in
theorem m_235 : (.code yX12_volumeAt cX12_volumeAt 2 (some (.object "BookOfAll$Volume")) : Cond) ∈ jw := jin (jt_4 _ (List.mem_of_getElem? (i := 62) (by decide +kernel))) (by decide +kernel)
set_option maxRecDepth 100000 in
theorem m_236 : (.methodLink RX12 161 yX12_lastLetter : Cond) ∈ jw := jin (jt_4 _ (List.mem_of_getElem? (i := 55) (by decide +kernel))) (by decide +kernel)
set_option maxRecDepth 100000 in
theorem m_237 : (.instanceMethod yX12_lastLetter : Cond) ∈ jw := jin (jt_4 _ (List.mem_of_getElem? (i := 57) (by decide +kernel))) (by decide +kernel)
set_option maxRecDepth 100000 in
theorem m_238 : (.selects RX12 yX12_lastLetter yX12_lastLetter : Cond) ∈ jw := jin (jt_p _ (List.mem_of_getElem? (i := 33) (by decide +kernel))) (by decide +kernel)
set_option maxRecDepth 100000 in
theorem m_239 : (.code yX12_lastLetter cX12_lastLetter 3 (some .int) : Cond) ∈ jw := jin (jt_4 _ (List.mem_of_getElem? (i := 58) (by decide +kernel))) (by decide +kernel)
set_option maxRecDepth 100000 in
theorem m_240 : (.fieldLink RX12 164 "BookOfAll$Volume" "lastLetter" "I" : Cond) ∈ jw := jin (jt_1 _ (List.mem_of_getElem? (i := 160) (by decide +kernel))) (by decide +kernel)
set_option maxRecDepth 100000 in
theorem m_241 : (.fieldLink RX12 28 "BookOfAll" "order" "LBookOfAll$Order;" : Cond) ∈ jw := jin (jt_2 _ (List.mem_of_getElem? (i := 89) (by decide +kernel))) (by decide +kernel)
set_option maxRecDepth 100000 in
theorem m_242 : (.fieldLink RX6 13 "BookOfAll$Order" "volume" "I" : Cond) ∈ jw := jin (jt_1 _ (List.mem_of_getElem? (i := 130) (by decide +kernel))) (by decide +kernel)
set_option maxRecDepth 100000 in
theorem m_243 : (.fieldLink RX6 17 "BookOfAll$Order" "day" "I" : Cond) ∈ jw := jin (jt_1 _ (List.mem_of_getElem? (i := 131) (by decide +kernel))) (by decide +kernel)
set_option maxRecDepth 100000 in
theorem m_244 : (.fieldLink RX6 20 "BookOfAll$Order" "skips" "Z" : Cond) ∈ jw := jin (jt_1 _ (List.mem_of_getElem? (i := 132) (by decide +kernel))) (by decide +kernel)
set_option maxRecDepth 100000 in
theorem m_245 : (.fieldLink RX6 7 "BookOfAll$Order" "rules" "LBookOfAll$Rules;" : Cond) ∈ jw := jin (jt_1 _ (List.mem_of_getElem? (i := 129) (by decide +kernel))) (by decide +kernel)
set_option maxRecDepth 100000 in
theorem m_246 : (.fieldLink RX8 58 "BookOfAll$Rules" "WITHOUT" "[I" : Cond) ∈ jw := jin (jt_4 _ (List.mem_of_getElem? (i := 1) (by decide +kernel))) (by decide +kernel)
set_option maxRecDepth 100000 in
theorem m_247 : (.methodLink RX8 61 yX8_inForce : Cond) ∈ jw := jin (jt_4 _ (List.mem_of_getElem? (i := 3) (by decide +kernel))) (by decide +kernel)
set_option maxRecDepth 100000 in
theorem m_248 : (.methodLink RX6 26 yX8_valueOf : Cond) ∈ jw := jin (jt_3 _ (List.mem_of_getElem? (i := 237) (by decide +kernel))) (by decide +kernel)
set_option maxRecDepth 100000 in
theorem m_249 : (.instanceMethod yX8_valueOf : Cond) ∈ jw := jin (jt_3 _ (List.mem_of_getElem? (i := 238) (by decide +kernel))) (by decide +kernel)
set_option maxRecDepth 100000 in
theorem m_250 : (.selects RX8 yX8_valueOf yX8_valueOf : Cond) ∈ jw := jin (jt_3 _ (List.mem_of_getElem? (i := 239) (by decide +kernel))) (by decide +kernel)
set_option maxRecDepth 100000 in
theorem m_251 : (.code yX8_valueOf cX8_valueOf 6 (some .int) : Cond) ∈ jw := jin (jt_4 _ (List.mem_of_getElem? (i := 0) (by decide +kernel))) (by decide +kernel)
set_option maxRecDepth 100000 in
theorem m_252 : (.fieldLink RX6 32 "BookOfAll$Order" "blanksCount" "Z" : Cond) ∈ jw := jin (jt_1 _ (List.mem_of_getElem? (i := 133) (by decide +kernel))) (by decide +kernel)
set_option maxRecDepth 100000 in
theorem m_253 : (.fieldLink RX6 35 "BookOfAll$Order" "numbersFirst" "Z" : Cond) ∈ jw := jin (jt_1 _ (List.mem_of_getElem? (i := 134) (by decide +kernel))) (by decide +kernel)
set_option maxRecDepth 100000 in
theorem m_254 : (.methodLink RX12 212 yX6_take : Cond) ∈ jw := jin (jt_3 _ (List.mem_of_getElem? (i := 233) (by decide +kernel))) (by decide +kernel)
set_option maxRecDepth 100000 in
theorem m_255 : (.instanceMethod yX6_take : Cond) ∈ jw := jin (jt_3 _ (List.mem_of_getElem? (i := 234) (by decide +kernel))) (by decide +kernel)
set_option maxRecDepth 100000 in
theorem m_256 : (.selects RX6 yX6_take yX6_take : Cond) ∈ jw := jin (jt_3 _ (List.mem_of_getElem? (i := 235) (by decide +kernel))) (by decide +kernel)
set_option maxRecDepth 100000 in
theorem m_257 : (.initialized RX6 : Cond) ∈ jw := jin (jt_1 _ (List.mem_of_getElem? (i := 4) (by decide +kernel))) (by decide +kernel)
set_option maxRecDepth 100000 in
theorem m_258 : (.code yX6_take cX6_take 3 none : Cond) ∈ jw := jin (jt_3 _ (List.mem_of_getElem? (i := 236) (by decide +kernel))) (by decide +kernel)
set_option maxRecDepth 100000 in
theorem m_259 : (.fieldLink RX12 203 "BookOfAll" "entryCount" "I" : Cond) ∈ jw := jin (jt_2 _ (List.mem_of_getElem? (i := 92) (by decide +kernel))) (by decide +kernel)
set_option maxRecDepth 100000 in
theorem m_260 : (.methodLink RX12 140 yX12_sortIntoVolumes : Cond) ∈ jw := jin (jt_3 _ (List.mem_of_getElem? (i := 229) (by decide +kernel))) (by decide +kernel)
set_option maxRecDepth 100000 in
theorem m_261 : (.instanceMethod yX12_sortIntoVolumes : Cond) ∈ jw := jin (jt_3 _ (List.mem_of_getElem? (i := 231) (by decide +kernel))) (by decide +kernel)
set_option maxRecDepth 100000 in
theorem m_262 : (.selects RX12 yX12_sortIntoVolumes yX12_sortIntoVolumes : Cond) ∈ jw := jin (jt_p _ (List.mem_of_getElem? (i := 28) (by decide +kernel))) (by decide +kernel)
set_option maxRecDepth 100000 in
theorem m_263 : (.code yX12_sortIntoVolumes cX12_sortIntoVolumes 3 none : Cond) ∈ jw := jin (jt_3 _ (List.mem_of_getElem? (i := 232) (by decide +kernel))) (by decide +kernel)
set_option maxRecDepth 100000 in
theorem m_264 : (.methodLink RX12 200 yX0_headingSize : Cond) ∈ jw := jin (jt_4 _ (List.mem_of_getElem? (i := 88) (by decide +kernel))) (by decide +kernel)
set_option maxRecDepth 100000 in
theorem m_265 : (.static yX0_headingSize : Cond) ∈ jw := jin (jt_4 _ (List.mem_of_getElem? (i := 89) (by decide +kernel))) (by decide +kernel)
set_option maxRecDepth 100000 in
theorem m_266 : (.code yX0_headingSize cX0_headingSize 8 (some .int) : Cond) ∈ jw := jin (jt_4 _ (List.mem_of_getElem? (i := 90) (by decide +kernel))) (by decide +kernel)
set_option maxRecDepth 100000 in
theorem m_267 : (.classLink RX12 41 RX0 : Cond) ∈ jw := jin (jt_1 _ (List.mem_of_getElem? (i := 186) (by decide +kernel))) (by decide +kernel)
set_option maxRecDepth 100000 in
theorem m_268 : (.instantiable RX0 18 : Cond) ∈ jw := jin (jt_4 _ (List.mem_of_getElem? (i := 98) (by decide +kernel))) (by decide +kernel)
set_option maxRecDepth 100000 in
theorem m_269 : (.methodLink RX0 3 objectInit : Cond) ∈ jw := jin (jt_4 _ (List.mem_of_getElem? (i := 102) (by decide +kernel))) (by decide +kernel)
set_option maxRecDepth 100000 in
theorem m_270 : (.fieldLink RX0 9 "BookOfAll$Entry" "to" "I" : Cond) ∈ jw := jin (jt_4 _ (List.mem_of_getElem? (i := 121) (by decide +kernel))) (by decide +kernel)
set_option maxRecDepth 100000 in
theorem m_271 : (.fieldLink RX0 15 "BookOfAll$Entry" "setWith" "I" : Cond) ∈ jw := jin (jt_4 _ (List.mem_of_getElem? (i := 125) (by decide +kernel))) (by decide +kernel)
set_option maxRecDepth 100000 in
theorem m_272 : (.fieldLink RX0 18 "BookOfAll$Entry" "begins" "I" : Cond) ∈ jw := jin (jt_4 _ (List.mem_of_getElem? (i := 127) (by decide +kernel))) (by decide +kernel)
set_option maxRecDepth 100000 in
theorem m_273 : (.fieldLink RX0 21 "BookOfAll$Entry" "hand" "I" : Cond) ∈ jw := jin (jt_4 _ (List.mem_of_getElem? (i := 129) (by decide +kernel))) (by decide +kernel)
set_option maxRecDepth 100000 in
theorem m_274 : (.fieldLink RX0 24 "BookOfAll$Entry" "number" "I" : Cond) ∈ jw := jin (jt_4 _ (List.mem_of_getElem? (i := 104) (by decide +kernel))) (by decide +kernel)
set_option maxRecDepth 100000 in
theorem m_275 : (.fieldLink RX0 27 "BookOfAll$Entry" "kind" "I" : Cond) ∈ jw := jin (jt_4 _ (List.mem_of_getElem? (i := 107) (by decide +kernel))) (by decide +kernel)
set_option maxRecDepth 100000 in
theorem m_276 : (.methodLink RX0 30 Lib.Math.max.name : Cond) ∈ jw := jin (jt_4 _ (List.mem_of_getElem? (i := 103) (by decide +kernel))) (by decide +kernel)
set_option maxRecDepth 100000 in
theorem m_277 : (.code yX0_init cX0_init 4 none : Cond) ∈ jw := jin (jt_4 _ (List.mem_of_getElem? (i := 101) (by decide +kernel))) (by decide +kernel)
set_option maxRecDepth 100000 in
theorem m_278 : (.methodLink RX12 206 yX0_init : Cond) ∈ jw := jin (jt_4 _ (List.mem_of_getElem? (i := 99) (by decide +kernel))) (by decide +kernel)
set_option maxRecDepth 100000 in
theorem m_279 : (.instanceMethod yX0_init : Cond) ∈ jw := jin (jt_4 _ (List.mem_of_getElem? (i := 100) (by decide +kernel))) (by decide +kernel)
set_option maxRecDepth 100000 in
theorem m_280 : (.methodLink RX12 209 yX0_readHeading : Cond) ∈ jw := jin (jt_4 _ (List.mem_of_getElem? (i := 172) (by decide +kernel))) (by decide +kernel)
set_option maxRecDepth 100000 in
theorem m_281 : (.instanceMethod yX0_readHeading : Cond) ∈ jw := jin (jt_4 _ (List.mem_of_getElem? (i := 173) (by decide +kernel))) (by decide +kernel)
set_option maxRecDepth 100000 in
theorem m_282 : (.selects RX0 yX0_readHeading yX0_readHeading : Cond) ∈ jw := jin (jt_4 _ (List.mem_of_getElem? (i := 174) (by decide +kernel))) (by decide +kernel)
set_option maxRecDepth 100000 in
theorem m_283 : (.code yX0_readHeading cX0_readHeading 5 none : Cond) ∈ jw := jin (jt_4 _ (List.mem_of_getElem? (i := 175) (by decide +kernel))) (by decide +kernel)
set_option maxRecDepth 100000 in
theorem m_284 : (.fieldLink RX12 43 "BookOfAll" "entries" "[LBookOfAll$Entry;" : Cond) ∈ jw := jin (jt_2 _ (List.mem_of_getElem? (i := 91) (by decide +kernel))) (by decide +kernel)
set_option maxRecDepth 100000 in
theorem m_285 : (.fieldLink RX6 38 "BookOfAll$Entry" "secondWord" "I" : Cond) ∈ jw := jin (jt_4 _ (List.mem_of_getElem? (i := 112) (by decide +kernel))) (by decide +kernel)
set_option maxRecDepth 100000 in
theorem m_286 : (.fieldLink RX6 50 "BookOfAll$Entry" "keyStart" "I" : Cond) ∈ jw := jin (jt_4 _ (List.mem_of_getElem? (i := 114) (by decide +kernel))) (by decide +kernel)
set_option maxRecDepth 100000 in
theorem m_287 : (.fieldLink RX6 43 "BookOfAll$Entry" "firstWord" "J" : Cond) ∈ jw := jin (jt_4 _ (List.mem_of_getElem? (i := 110) (by decide +kernel))) (by decide +kernel)
set_option maxRecDepth 100000 in
theorem m_288 : (.methodLink RX6 47 yX8_skips : Cond) ∈ jw := jin (jt_4 _ (List.mem_of_getElem? (i := 42) (by decide +kernel))) (by decide +kernel)
set_option maxRecDepth 100000 in
theorem m_289 : (.instanceMethod yX8_skips : Cond) ∈ jw := jin (jt_4 _ (List.mem_of_getElem? (i := 43) (by decide +kernel))) (by decide +kernel)
set_option maxRecDepth 100000 in
theorem m_290 : (.selects RX8 yX8_skips yX8_skips : Cond) ∈ jw := jin (jt_4 _ (List.mem_of_getElem? (i := 44) (by decide +kernel))) (by decide +kernel)
set_option maxRecDepth 100000 in
theorem m_291 : (.code yX8_skips cX8_skips 7 (some .boolean) : Cond) ∈ jw := jin (jt_4 _ (List.mem_of_getElem? (i := 45) (by decide +kernel))) (by decide +kernel)
set_option maxRecDepth 100000 in
theorem m_292 : (.methodLink RX12 223 yX6_prepare : Cond) ∈ jw := jin (jt_4 _ (List.mem_of_getElem? (i := 38) (by decide +kernel))) (by decide +kernel)
set_option maxRecDepth 100000 in
theorem m_293 : (.instanceMethod yX6_prepare : Cond) ∈ jw := jin (jt_4 _ (List.mem_of_getElem? (i := 39) (by decide +kernel))) (by decide +kernel)
set_option maxRecDepth 100000 in
theorem m_294 : (.selects RX6 yX6_prepare yX6_prepare : Cond) ∈ jw := jin (jt_4 _ (List.mem_of_getElem? (i := 40) (by decide +kernel))) (by decide +kernel)
set_option maxRecDepth 100000 in
theorem m_295 : (.code yX6_prepare cX6_prepare 3 none : Cond) ∈ jw := jin (jt_4 _ (List.mem_of_getElem? (i := 41) (by decide +kernel))) (by decide +kernel)
set_option maxRecDepth 100000 in
theorem m_296 : (.fieldLink RX12 227 "BookOfAll$Entry" "keyStart" "I" : Cond) ∈ jw := jin (jt_4 _ (List.mem_of_getElem? (i := 115) (by decide +kernel))) (by decide +kernel)
set_option maxRecDepth 100000 in
theorem m_297 : (.methodLink RX12 230 yX0_byteAt : Cond) ∈ jw := jin (jt_4 _ (List.mem_of_getElem? (i := 50) (by decide +kernel))) (by decide +kernel)
set_option maxRecDepth 100000 in
theorem m_298 : (.instanceMethod yX0_byteAt : Cond) ∈ jw := jin (jt_4 _ (List.mem_of_getElem? (i := 51) (by decide +kernel))) (by decide +kernel)
set_option maxRecDepth 100000 in
theorem m_299 : (.selects RX0 yX0_byteAt yX0_byteAt : Cond) ∈ jw := jin (jt_4 _ (List.mem_of_getElem? (i := 52) (by decide +kernel))) (by decide +kernel)
set_option maxRecDepth 100000 in
theorem m_300 : (.code yX0_byteAt cX0_byteAt 2 (some .int) : Cond) ∈ jw := jin (jt_4 _ (List.mem_of_getElem? (i := 53) (by decide +kernel))) (by decide +kernel)
set_option maxRecDepth 100000 in
theorem m_301 : (.methodLink RX12 233 yX0_isDigit : Cond) ∈ jw := jin (jt_4 _ (List.mem_of_getElem? (i := 54) (by decide +kernel))) (by decide +kernel)
set_option maxRecDepth 100000 in
theorem m_302 : (.fieldLink RX12 236 "BookOfAll$Order" "numbersFirst" "Z" : Cond) ∈ jw := jin (jt_1 _ (List.mem_of_getElem? (i := 135) (by decide +kernel))) (by decide +kernel)
set_option maxRecDepth 100000 in
theorem m_303 : (.methodLink RX12 216 yX12_volumeByKey : Cond) ∈ jw := jin (jt_4 _ (List.mem_of_getElem? (i := 34) (by decide +kernel))) (by decide +kernel)
set_option maxRecDepth 100000 in
theorem m_304 : (.instanceMethod yX12_volumeByKey : Cond) ∈ jw := jin (jt_4 _ (List.mem_of_getElem? (i := 36) (by decide +kernel))) (by decide +kernel)
set_option maxRecDepth 100000 in
theorem m_305 : (.selects RX12 yX12_volumeByKey yX12_volumeByKey : Cond) ∈ jw := jin (jt_p _ (List.mem_of_getElem? (i := 32) (by decide +kernel))) (by decide +kernel)
set_option maxRecDepth 100000 in
theorem m_306 : (.code yX12_volumeByKey cX12_volumeByKey 5 (some .int) : Cond) ∈ jw := jin (jt_4 _ (List.mem_of_getElem? (i := 37) (by decide +kernel))) (by decide +kernel)
set_option maxRecDepth 100000 in
theorem m_307 : (.fieldLink RX12 220 "BookOfAll$Entry" "keyVolume" "I" : Cond) ∈ jw := jin (jt_4 _ (List.mem_of_getElem? (i := 116) (by decide +kernel))) (by decide +kernel)
set_option maxRecDepth 100000 in
theorem m_308 : (.methodLink RX12 173 yX12_newEntry : Cond) ∈ jw := jin (jt_4 _ (List.mem_of_getElem? (i := 84) (by decide +kernel))) (by decide +kernel)
set_option maxRecDepth 100000 in
theorem m_309 : (.instanceMethod yX12_newEntry : Cond) ∈ jw := jin (jt_4 _ (List.mem_of_getElem? (i := 86) (by decide +kernel))) (by decide +kernel)
set_option maxRecDepth 100000 in
theorem m_310 : (.selects RX12 yX12_newEntry yX12_newEntry : Cond) ∈ jw := jin (jt_p _ (List.mem_of_getElem? (i := 35) (by decide +kernel))) (by decide +kernel)
set_option maxRecDepth 100000 in
theorem m_311 : (.code yX12_newEntry cX12_newEntry 7 (some (.object "BookOfAll$Entry")) : Cond) ∈ jw := jin (jt_4 _ (List.mem_of_getElem? (i := 87) (by decide +kernel))) (by decide +kernel)
set_option maxRecDepth 100000 in
theorem m_312 : (.fieldLink RX12 177 "BookOfAll$Entry" "k" "I" : Cond) ∈ jw := jin (jt_4 _ (List.mem_of_getElem? (i := 117) (by decide +kernel))) (by decide +kernel)
set_option maxRecDepth 100000 in
theorem m_313 : (.fieldLink RX12 180 "BookOfAll$Entry" "field" "I" : Cond) ∈ jw := jin (jt_4 _ (List.mem_of_getElem? (i := 118) (by decide +kernel))) (by decide +kernel)
set_option maxRecDepth 100000 in
theorem m_314 : (.fieldLink RX12 183 "BookOfAll$Entry" "asked" "I" : Cond) ∈ jw := jin (jt_4 _ (List.mem_of_getElem? (i := 120) (by decide +kernel))) (by decide +kernel)
set_option maxRecDepth 100000 in
theorem m_315 : (.fieldLink RX12 186 "BookOfAll$Entry" "number" "I" : Cond) ∈ jw := jin (jt_4 _ (List.mem_of_getElem? (i := 106) (by decide +kernel))) (by decide +kernel)
set_option maxRecDepth 100000 in
theorem m_316 : (.methodLink RX12 189 yX12_entryAt : Cond) ∈ jw := jin (jt_4 _ (List.mem_of_getElem? (i := 30) (by decide +kernel))) (by decide +kernel)
set_option maxRecDepth 100000 in
theorem m_317 : (.instanceMethod yX12_entryAt : Cond) ∈ jw := jin (jt_4 _ (List.mem_of_getElem? (i := 32) (by decide +kernel))) (by decide +kernel)
set_option maxRecDepth 100000 in
theorem m_318 : (.selects RX12 yX12_entryAt yX12_entryAt : Cond) ∈ jw := jin (jt_p _ (List.mem_of_getElem? (i := 31) (by decide +kernel))) (by decide +kernel)
set_option maxRecDepth 100000 in
theorem m_319 : (.code yX12_entryAt cX12_entryAt 2 (some (.object "BookOfAll$Entry")) : Cond) ∈ jw := jin (jt_4 _ (List.mem_of_getElem? (i := 33) (by decide +kernel))) (by decide +kernel)
set_option maxRecDepth 100000 in
theorem m_320 : (.methodLink RX12 196 yX12_areEntries : Cond) ∈ jw := jin (jt_4 _ (List.mem_of_getElem? (i := 184) (by decide +kernel))) (by decide +kernel)
set_option maxRecDepth 100000 in
theorem m_321 : (.instanceMethod yX12_areEntries : Cond) ∈ jw := jin (jt_4 _ (List.mem_of_getElem? (i := 186) (by decide +kernel))) (by decide +kernel)
set_option maxRecDepth 100000 in
theorem m_322 : (.selects RX12 yX12_areEntries yX12_areEntries : Cond) ∈ jw := jin (jt_p _ (List.mem_of_getElem? (i := 36) (by decide +kernel))) (by decide +kernel)
set_option maxRecDepth 100000 in
theorem m_323 : (.code yX12_areEntries cX12_areEntries 8 (some .boolean) : Cond) ∈ jw := jin (jt_4 _ (List.mem_of_getElem? (i := 187) (by decide +kernel))) (by decide +kernel)
set_option maxRecDepth 100000 in
theorem m_324 : (.methodLink RX12 243 yX12_entryOfKind : Cond) ∈ jw := jin (jt_4 _ (List.mem_of_getElem? (i := 192) (by decide +kernel))) (by decide +kernel)
set_option maxRecDepth 100000 in
theorem m_325 : (.instanceMethod yX12_entryOfKind : Cond) ∈ jw := jin (jt_4 _ (List.mem_of_getElem? (i := 194) (by decide +kernel))) (by decide +kernel)
set_option maxRecDepth 100000 in
theorem m_326 : (.selects RX12 yX12_entryOfKind yX12_entryOfKind : Cond) ∈ jw := jin (jt_p _ (List.mem_of_getElem? (i := 37) (by decide +kernel))) (by decide +kernel)
set_option maxRecDepth 100000 in
theorem m_327 : (.code yX12_entryOfKind cX12_entryOfKind 4 (some (.object "BookOfAll$Entry")) : Cond) ∈ jw := jin (jt_4 _ (List.mem_of_getElem? (i := 195) (by decide +kernel))) (by decide +kernel)
set_option maxRecDepth 100000 in
theorem m_328 : (.methodLink RX12 250 yX12_sendAway : Cond) ∈ jw := jin (jt_4 _ (List.mem_of_getElem? (i := 200) (by decide +kernel))) (by decide +kernel)
set_option maxRecDepth 100000 in
theorem m_329 : (.instanceMethod yX12_sendAway : Cond) ∈ jw := jin (jt_4 _ (List.mem_of_getElem? (i := 202) (by decide +kernel))) (by decide +kernel)
set_option maxRecDepth 100000 in
theorem m_330 : (.selects RX12 yX12_sendAway yX12_sendAway : Cond) ∈ jw := jin (jt_p _ (List.mem_of_getElem? (i := 38) (by decide +kernel))) (by decide +kernel)
set_option maxRecDepth 100000 in
theorem m_331 : (.code yX12_sendAway cX12_sendAway 4 (some .boolean) : Cond) ∈ jw := jin (jt_4 _ (List.mem_of_getElem? (i := 203) (by decide +kernel))) (by decide +kernel)
set_option maxRecDepth 100000 in
theorem m_332 : (.fieldLink RX12 170 "BookOfAll$Volume" "setDay" "I" : Cond) ∈ jw := jin (jt_1 _ (List.mem_of_getElem? (i := 162) (by decide +kernel))) (by decide +kernel)
set_option maxRecDepth 100000 in
theorem m_333 : (.fieldLink RX12 268 "BookOfAll" "rowSize" "I" : Cond) ∈ jw := jin (jt_2 _ (List.mem_of_getElem? (i := 94) (by decide +kernel))) (by decide +kernel)
set_option maxRecDepth 100000 in
theorem m_334 : (.methodLink RX12 265 yX12_arrange : Cond) ∈ jw := jin (jt_4 _ (List.mem_of_getElem? (i := 224) (by decide +kernel))) (by decide +kernel)
set_option maxRecDepth 100000 in
theorem m_335 : (.instanceMethod yX12_arrange : Cond) ∈ jw := jin (jt_4 _ (List.mem_of_getElem? (i := 226) (by decide +kernel))) (by decide +kernel)
set_option maxRecDepth 100000 in
theorem m_336 : (.selects RX12 yX12_arrange yX12_arrange : Cond) ∈ jw := jin (jt_p _ (List.mem_of_getElem? (i := 41) (by decide +kernel))) (by decide +kernel)
set_option maxRecDepth 100000 in
theorem m_337 : (.code yX12_arrange cX12_arrange 4 none : Cond) ∈ jw := jin (jt_4 _ (List.mem_of_getElem? (i := 227) (by decide +kernel))) (by decide +kernel)
set_option maxRecDepth 100000 in
theorem m_338 : (.constant RX12 291 (-40000) : Cond) ∈ jw := jin (jt_5 _ (List.mem_of_getElem? (i := 19) (by decide +kernel))) (by decide +kernel)
set_option maxRecDepth 100000 in
theorem m_339 : (.fieldLink RX12 292 "BookOfAll" "handCount" "I" : Cond) ∈ jw := jin (jt_2 _ (List.mem_of_getElem? (i := 96) (by decide +kernel))) (by decide +kernel)
set_option maxRecDepth 100000 in
theorem m_340 : (.fieldLink RX12 53 "BookOfAll" "hands" "[LBookOfAll$Hand;" : Cond) ∈ jw := jin (jt_2 _ (List.mem_of_getElem? (i := 95) (by decide +kernel))) (by decide +kernel)
set_option maxRecDepth 100000 in
theorem m_341 : (.classLink RX12 51 RX2 : Cond) ∈ jw := jin (jt_1 _ (List.mem_of_getElem? (i := 188) (by decide +kernel))) (by decide +kernel)
set_option maxRecDepth 100000 in
theorem m_342 : (.instantiable RX2 6 : Cond) ∈ jw := jin (jt_5 _ (List.mem_of_getElem? (i := 20) (by decide +kernel))) (by decide +kernel)
set_option maxRecDepth 100000 in
theorem m_343 : (.initialized RX2 : Cond) ∈ jw := jin (jt_1 _ (List.mem_of_getElem? (i := 21) (by decide +kernel))) (by decide +kernel)
set_option maxRecDepth 100000 in
theorem m_344 : (.methodLink RX2 1 objectInit : Cond) ∈ jw := jin (jt_5 _ (List.mem_of_getElem? (i := 24) (by decide +kernel))) (by decide +kernel)
set_option maxRecDepth 100000 in
theorem m_345 : (.fieldLink RX2 7 "BookOfAll$Hand" "lives" "Z" : Cond) ∈ jw := jin (jt_5 _ (List.mem_of_getElem? (i := 31) (by decide +kernel))) (by decide +kernel)
set_option maxRecDepth 100000 in
theorem m_346 : (.fieldLink RX2 13 "BookOfAll$Hand" "fields" "I" : Cond) ∈ jw := jin (jt_5 _ (List.mem_of_getElem? (i := 25) (by decide +kernel))) (by decide +kernel)
set_option maxRecDepth 100000 in
theorem m_347 : (.fieldLink RX2 17 "BookOfAll$Hand" "skill" "I" : Cond) ∈ jw := jin (jt_5 _ (List.mem_of_getElem? (i := 27) (by decide +kernel))) (by decide +kernel)
set_option maxRecDepth 100000 in
theorem m_348 : (.fieldLink RX2 20 "BookOfAll$Hand" "born" "I" : Cond) ∈ jw := jin (jt_5 _ (List.mem_of_getElem? (i := 29) (by decide +kernel))) (by decide +kernel)
set_option maxRecDepth 100000 in
theorem m_349 : (.code yX2_init cX2_init 4 none : Cond) ∈ jw := jin (jt_5 _ (List.mem_of_getElem? (i := 23) (by decide +kernel))) (by decide +kernel)
set_option maxRecDepth 100000 in
theorem m_350 : (.methodLink RX12 295 yX2_init : Cond) ∈ jw := jin (jt_5 _ (List.mem_of_getElem? (i := 21) (by decide +kernel))) (by decide +kernel)
set_option maxRecDepth 100000 in
theorem m_351 : (.instanceMethod yX2_init : Cond) ∈ jw := jin (jt_5 _ (List.mem_of_getElem? (i := 22) (by decide +kernel))) (by decide +kernel)
set_option maxRecDepth 100000 in
theorem m_352 : (.methodLink RX12 296 yX12_handAt : Cond) ∈ jw := jin (jt_5 _ (List.mem_of_getElem? (i := 52) (by decide +kernel))) (by decide +kernel)
set_option maxRecDepth 100000 in
theorem m_353 : (.instanceMethod yX12_handAt : Cond) ∈ jw := jin (jt_5 _ (List.mem_of_getElem? (i := 54) (by decide +kernel))) (by decide +kernel)
set_option maxRecDepth 100000 in
theorem m_354 : (.selects RX12 yX12_handAt yX12_handAt : Cond) ∈ jw := jin (jt_p _ (List.mem_of_getElem? (i := 44) (by decide +kernel))) (by decide +kernel)
set_option maxRecDepth 100000 in
theorem m_355 : (.code yX12_handAt cX12_handAt 2 (some (.object "BookOfAll$Hand")) : Cond) ∈ jw := jin (jt_5 _ (List.mem_of_getElem? (i := 55) (by decide +kernel))) (by decide +kernel)
set_option maxRecDepth 100000 in
theorem m_356 : (.methodLink RX12 316 yX12_livingHandAt : Cond) ∈ jw := jin (jt_5 _ (List.mem_of_getElem? (i := 68) (by decide +kernel))) (by decide +kernel)
set_option maxRecDepth 100000 in
theorem m_357 : (.instanceMethod yX12_livingHandAt : Cond) ∈ jw := jin (jt_5 _ (List.mem_of_getElem? (i := 70) (by decide +kernel))) (by decide +kernel)
set_option maxRecDepth 100000 in
theorem m_358 : (.selects RX12 yX12_livingHandAt yX12_livingHandAt : Cond) ∈ jw := jin (jt_p _ (List.mem_of_getElem? (i := 46) (by decide +kernel))) (by decide +kernel)
set_option maxRecDepth 100000 in
theorem m_359 : (.code yX12_livingHandAt cX12_livingHandAt 3 (some (.object "BookOfAll$Hand")) : Cond) ∈ jw := jin (jt_5 _ (List.mem_of_getElem? (i := 71) (by decide +kernel))) (by decide +kernel)
set_option maxRecDepth 100000 in
theorem m_360 : (.fieldLink RX12 66 "BookOfAll" "news" "LBookOfAll$News;" : Cond) ∈ jw := jin (jt_2 _ (List.mem_of_getElem? (i := 99) (by decide +kernel))) (by decide +kernel)
set_option maxRecDepth 100000 in
theorem m_361 : (.fieldLink RX5 49 "BookOfAll$News" "tells" "I" : Cond) ∈ jw := jin (jt_1 _ (List.mem_of_getElem? (i := 206) (by decide +kernel))) (by decide +kernel)
set_option maxRecDepth 100000 in
theorem m_362 : (.fieldLink RX5 15 "BookOfAll$News" "value" "[I" : Cond) ∈ jw := jin (jt_1 _ (List.mem_of_getElem? (i := 202) (by decide +kernel))) (by decide +kernel)
set_option maxRecDepth 100000 in
theorem m_363 : (.fieldLink RX5 18 "BookOfAll$News" "source" "[I" : Cond) ∈ jw := jin (jt_1 _ (List.mem_of_getElem? (i := 203) (by decide +kernel))) (by decide +kernel)
set_option maxRecDepth 100000 in
theorem m_364 : (.fieldLink RX5 21 "BookOfAll$News" "day" "[I" : Cond) ∈ jw := jin (jt_1 _ (List.mem_of_getElem? (i := 204) (by decide +kernel))) (by decide +kernel)
set_option maxRecDepth 100000 in
theorem m_365 : (.fieldLink RX5 24 "BookOfAll$News" "earlier" "[I" : Cond) ∈ jw := jin (jt_1 _ (List.mem_of_getElem? (i := 205) (by decide +kernel))) (by decide +kernel)
set_option maxRecDepth 100000 in
theorem m_366 : (.fieldLink RX5 11 "BookOfAll$News" "latest" "[I" : Cond) ∈ jw := jin (jt_1 _ (List.mem_of_getElem? (i := 201) (by decide +kernel))) (by decide +kernel)
set_option maxRecDepth 100000 in
theorem m_367 : (.methodLink RX12 408 yX5_addFact : Cond) ∈ jw := jin (jt_5 _ (List.mem_of_getElem? (i := 189) (by decide +kernel))) (by decide +kernel)
set_option maxRecDepth 100000 in
theorem m_368 : (.instanceMethod yX5_addFact : Cond) ∈ jw := jin (jt_5 _ (List.mem_of_getElem? (i := 190) (by decide +kernel))) (by decide +kernel)
set_option maxRecDepth 100000 in
theorem m_369 : (.selects RX5 yX5_addFact yX5_addFact : Cond) ∈ jw := jin (jt_5 _ (List.mem_of_getElem? (i := 191) (by decide +kernel))) (by decide +kernel)
set_option maxRecDepth 100000 in
theorem m_370 : (.initialized RX5 : Cond) ∈ jw := jin (jt_1 _ (List.mem_of_getElem? (i := 7) (by decide +kernel))) (by decide +kernel)
set_option maxRecDepth 100000 in
theorem m_371 : (.code yX5_addFact cX5_addFact 5 (some .boolean) : Cond) ∈ jw := jin (jt_5 _ (List.mem_of_getElem? (i := 192) (by decide +kernel))) (by decide +kernel)
set_option maxRecDepth 100000 in
theorem m_372 : (.methodLink RX5 53 yX5_tellOn : Cond) ∈ jw := jin (jt_5 _ (List.mem_of_getElem? (i := 119) (by decide +kernel))) (by decide +kernel)
set_option maxRecDepth 100000 in
theorem m_373 : (.instanceMethod yX5_tellOn : Cond) ∈ jw := jin (jt_5 _ (List.mem_of_getElem? (i := 121) (by decide +kernel))) (by decide +kernel)
set_option maxRecDepth 100000 in
theorem m_374 : (.selects RX5 yX5_tellOn yX5_tellOn : Cond) ∈ jw := jin (jt_p _ (List.mem_of_getElem? (i := 53) (by decide +kernel))) (by decide +kernel)
set_option maxRecDepth 100000 in
theorem m_375 : (.code yX5_tellOn cX5_tellOn 5 (some .int) : Cond) ∈ jw := jin (jt_5 _ (List.mem_of_getElem? (i := 122) (by decide +kernel))) (by decide +kernel)
set_option maxRecDepth 100000 in
theorem m_376 : (.methodLink RX12 412 yX5_sourceOn : Cond) ∈ jw := jin (jt_5 _ (List.mem_of_getElem? (i := 197) (by decide +kernel))) (by decide +kernel)
set_option maxRecDepth 100000 in
theorem m_377 : (.instanceMethod yX5_sourceOn : Cond) ∈ jw := jin (jt_5 _ (List.mem_of_getElem? (i := 198) (by decide +kernel))) (by decide +kernel)
set_option maxRecDepth 100000 in
theorem m_378 : (.selects RX5 yX5_sourceOn yX5_sourceOn : Cond) ∈ jw := jin (jt_5 _ (List.mem_of_getElem? (i := 199) (by decide +kernel))) (by decide +kernel)
set_option maxRecDepth 100000 in
theorem m_379 : (.code yX5_sourceOn cX5_sourceOn 4 (some .int) : Cond) ∈ jw := jin (jt_5 _ (List.mem_of_getElem? (i := 200) (by decide +kernel))) (by decide +kernel)
set_option maxRecDepth 100000 in
theorem m_380 : (.methodLink RX12 389 yX5_valueOn : Cond) ∈ jw := jin (jt_5 _ (List.mem_of_getElem? (i := 115) (by decide +kernel))) (by decide +kernel)
set_option maxRecDepth 100000 in
theorem m_381 : (.instanceMethod yX5_valueOn : Cond) ∈ jw := jin (jt_5 _ (List.mem_of_getElem? (i := 116) (by decide +kernel))) (by decide +kernel)
set_option maxRecDepth 100000 in
theorem m_382 : (.selects RX5 yX5_valueOn yX5_valueOn : Cond) ∈ jw := jin (jt_5 _ (List.mem_of_getElem? (i := 117) (by decide +kernel))) (by decide +kernel)
set_option maxRecDepth 100000 in
theorem m_383 : (.code yX5_valueOn cX5_valueOn 4 (some .int) : Cond) ∈ jw := jin (jt_5 _ (List.mem_of_getElem? (i := 118) (by decide +kernel))) (by decide +kernel)
set_option maxRecDepth 100000 in
theorem m_384 : (.fieldLink RX12 370 "BookOfAll" "lineCount" "I" : Cond) ∈ jw := jin (jt_2 _ (List.mem_of_getElem? (i := 98) (by decide +kernel))) (by decide +kernel)
set_option maxRecDepth 100000 in
theorem m_385 : (.methodLink RX12 392 yX12_lineAt : Cond) ∈ jw := jin (jt_5 _ (List.mem_of_getElem? (i := 123) (by decide +kernel))) (by decide +kernel)
set_option maxRecDepth 100000 in
theorem m_386 : (.instanceMethod yX12_lineAt : Cond) ∈ jw := jin (jt_5 _ (List.mem_of_getElem? (i := 125) (by decide +kernel))) (by decide +kernel)
set_option maxRecDepth 100000 in
theorem m_387 : (.selects RX12 yX12_lineAt yX12_lineAt : Cond) ∈ jw := jin (jt_p _ (List.mem_of_getElem? (i := 54) (by decide +kernel))) (by decide +kernel)
set_option maxRecDepth 100000 in
theorem m_388 : (.code yX12_lineAt cX12_lineAt 2 (some (.object "BookOfAll$Line")) : Cond) ∈ jw := jin (jt_5 _ (List.mem_of_getElem? (i := 126) (by decide +kernel))) (by decide +kernel)
set_option maxRecDepth 100000 in
theorem m_389 : (.fieldLink RX5 57 "BookOfAll$News" "errata" "I" : Cond) ∈ jw := jin (jt_1 _ (List.mem_of_getElem? (i := 212) (by decide +kernel))) (by decide +kernel)
set_option maxRecDepth 100000 in
theorem m_390 : (.methodLink RX12 433 yX5_missedBy : Cond) ∈ jw := jin (jt_5 _ (List.mem_of_getElem? (i := 237) (by decide +kernel))) (by decide +kernel)
set_option maxRecDepth 100000 in
theorem m_391 : (.instanceMethod yX5_missedBy : Cond) ∈ jw := jin (jt_5 _ (List.mem_of_getElem? (i := 238) (by decide +kernel))) (by decide +kernel)
set_option maxRecDepth 100000 in
theorem m_392 : (.selects RX5 yX5_missedBy yX5_missedBy : Cond) ∈ jw := jin (jt_5 _ (List.mem_of_getElem? (i := 239) (by decide +kernel))) (by decide +kernel)
set_option maxRecDepth 100000 in
theorem m_393 : (.code yX5_missedBy cX5_missedBy 2 (some .int) : Cond) ∈ jw := jin (jt_6 _ (List.mem_of_getElem? (i := 0) (by decide +kernel))) (by decide +kernel)
set_option maxRecDepth 100000 in
theorem m_394 : (.methodLink RX12 443 yX12_rowMayBeSet : Cond) ∈ jw := jin (jt_6 _ (List.mem_of_getElem? (i := 13) (by decide +kernel))) (by decide +kernel)
set_option maxRecDepth 100000 in
theorem m_395 : (.instanceMethod yX12_rowMayBeSet : Cond) ∈ jw := jin (jt_6 _ (List.mem_of_getElem? (i := 15) (by decide +kernel))) (by decide +kernel)
set_option maxRecDepth 100000 in
theorem m_396 : (.selects RX12 yX12_rowMayBeSet yX12_rowMayBeSet : Cond) ∈ jw := jin (jt_p _ (List.mem_of_getElem? (i := 60) (by decide +kernel))) (by decide +kernel)
set_option maxRecDepth 100000 in
theorem m_397 : (.code yX12_rowMayBeSet cX12_rowMayBeSet 3 (some .boolean) : Cond) ∈ jw := jin (jt_6 _ (List.mem_of_getElem? (i := 16) (by decide +kernel))) (by decide +kernel)
set_option maxRecDepth 100000 in
theorem m_398 : (.methodLink RX12 455 yX12_linesInRow : Cond) ∈ jw := jin (jt_6 _ (List.mem_of_getElem? (i := 25) (by decide +kernel))) (by decide +kernel)
set_option maxRecDepth 100000 in
theorem m_399 : (.instanceMethod yX12_linesInRow : Cond) ∈ jw := jin (jt_6 _ (List.mem_of_getElem? (i := 27) (by decide +kernel))) (by decide +kernel)
set_option maxRecDepth 100000 in
theorem m_400 : (.selects RX12 yX12_linesInRow yX12_linesInRow : Cond) ∈ jw := jin (jt_p _ (List.mem_of_getElem? (i := 63) (by decide +kernel))) (by decide +kernel)
set_option maxRecDepth 100000 in
theorem m_401 : (.code yX12_linesInRow cX12_linesInRow 4 (some .int) : Cond) ∈ jw := jin (jt_6 _ (List.mem_of_getElem? (i := 28) (by decide +kernel))) (by decide +kernel)
set_option maxRecDepth 100000 in
theorem m_402 : (.fieldLink RX12 458 "BookOfAll$Volume" "laid" "[I" : Cond) ∈ jw := jin (jt_1 _ (List.mem_of_getElem? (i := 166) (by decide +kernel))) (by decide +kernel)
set_option maxRecDepth 100000 in
theorem m_403 : (.fieldLink RX12 47 "BookOfAll" "row" "[I" : Cond) ∈ jw := jin (jt_2 _ (List.mem_of_getElem? (i := 93) (by decide +kernel))) (by decide +kernel)
set_option maxRecDepth 100000 in
theorem m_404 : (.methodLink RX12 379 Lib.Math.max.name : Cond) ∈ jw := jin (jt_5 _ (List.mem_of_getElem? (i := 172) (by decide +kernel))) (by decide +kernel)
set_option maxRecDepth 100000 in
theorem m_405 : (.methodLink RX12 461 yJ7_copyOf_59c91 : Cond) ∈ jw := jin (jt_6 _ (List.mem_of_getElem? (i := 29) (by decide +kernel))) (by decide +kernel)
set_option maxRecDepth 100000 in
theorem m_406 : (.fieldLink RX12 263 "BookOfAll$Volume" "order" "[I" : Cond) ∈ jw := jin (jt_1 _ (List.mem_of_getElem? (i := 164) (by decide +kernel))) (by decide +kernel)
set_option maxRecDepth 100000 in
theorem m_407 : (.methodLink RX12 446 yX12_lay : Cond) ∈ jw := jin (jt_6 _ (List.mem_of_getElem? (i := 21) (by decide +kernel))) (by decide +kernel)
set_option maxRecDepth 100000 in
theorem m_408 : (.instanceMethod yX12_lay : Cond) ∈ jw := jin (jt_6 _ (List.mem_of_getElem? (i := 23) (by decide +kernel))) (by decide +kernel)
set_option maxRecDepth 100000 in
theorem m_409 : (.selects RX12 yX12_lay yX12_lay : Cond) ∈ jw := jin (jt_p _ (List.mem_of_getElem? (i := 62) (by decide +kernel))) (by decide +kernel)
set_option maxRecDepth 100000 in
theorem m_410 : (.code yX12_lay cX12_lay 5 none : Cond) ∈ jw := jin (jt_6 _ (List.mem_of_getElem? (i := 24) (by decide +kernel))) (by decide +kernel)
set_option maxRecDepth 100000 in
theorem m_411 : (.fieldLink RX12 450 "BookOfAll$Volume" "lines" "I" : Cond) ∈ jw := jin (jt_1 _ (List.mem_of_getElem? (i := 169) (by decide +kernel))) (by decide +kernel)
set_option maxRecDepth 100000 in
theorem m_412 : (.methodLink RX12 491 yX12_isSubscriber : Cond) ∈ jw := jin (jt_6 _ (List.mem_of_getElem? (i := 74) (by decide +kernel))) (by decide +kernel)
set_option maxRecDepth 100000 in
theorem m_413 : (.instanceMethod yX12_isSubscriber : Cond) ∈ jw := jin (jt_6 _ (List.mem_of_getElem? (i := 76) (by decide +kernel))) (by decide +kernel)
set_option maxRecDepth 100000 in
theorem m_414 : (.selects RX12 yX12_isSubscriber yX12_isSubscriber : Cond) ∈ jw := jin (jt_p _ (List.mem_of_getElem? (i := 69) (by decide +kernel))) (by decide +kernel)
set_option maxRecDepth 100000 in
theorem m_415 : (.code yX12_isSubscriber cX12_isSubscriber 2 (some .boolean) : Cond) ∈ jw := jin (jt_6 _ (List.mem_of_getElem? (i := 77) (by decide +kernel))) (by decide +kernel)
set_option maxRecDepth 100000 in
theorem m_416 : (.fieldLink RX12 70 "BookOfAll" "firstVolume" "[I" : Cond) ∈ jw := jin (jt_2 _ (List.mem_of_getElem? (i := 100) (by decide +kernel))) (by decide +kernel)
set_option maxRecDepth 100000 in
theorem m_417 : (.fieldLink RX12 73 "BookOfAll" "price" "[I" : Cond) ∈ jw := jin (jt_2 _ (List.mem_of_getElem? (i := 101) (by decide +kernel))) (by decide +kernel)
set_option maxRecDepth 100000 in
theorem m_418 : (.methodLink RX12 494 yX12_setVolumeAt : Cond) ∈ jw := jin (jt_6 _ (List.mem_of_getElem? (i := 82) (by decide +kernel))) (by decide +kernel)
set_option maxRecDepth 100000 in
theorem m_419 : (.instanceMethod yX12_setVolumeAt : Cond) ∈ jw := jin (jt_6 _ (List.mem_of_getElem? (i := 84) (by decide +kernel))) (by decide +kernel)
set_option maxRecDepth 100000 in
theorem m_420 : (.selects RX12 yX12_setVolumeAt yX12_setVolumeAt : Cond) ∈ jw := jin (jt_p _ (List.mem_of_getElem? (i := 70) (by decide +kernel))) (by decide +kernel)
set_option maxRecDepth 100000 in
theorem m_421 : (.code yX12_setVolumeAt cX12_setVolumeAt 3 (some (.object "BookOfAll$Volume")) : Cond) ∈ jw := jin (jt_6 _ (List.mem_of_getElem? (i := 85) (by decide +kernel))) (by decide +kernel)
set_option maxRecDepth 100000 in
theorem m_422 : (.fieldLink RX12 85 "BookOfAll" "fitting" "LBookOfAll$Lengths;" : Cond) ∈ jw := jin (jt_2 _ (List.mem_of_getElem? (i := 102) (by decide +kernel))) (by decide +kernel)
set_option maxRecDepth 100000 in
theorem m_423 : (.fieldLink RX3 27 "BookOfAll$Lengths" "size" "I" : Cond) ∈ jw := jin (jt_2 _ (List.mem_of_getElem? (i := 12) (by decide +kernel))) (by decide +kernel)
set_option maxRecDepth 100000 in
theorem m_424 : (.fieldLink RX3 31 "BookOfAll$Lengths" "fixed" "I" : Cond) ∈ jw := jin (jt_2 _ (List.mem_of_getElem? (i := 13) (by decide +kernel))) (by decide +kernel)
set_option maxRecDepth 100000 in
theorem m_425 : (.methodLink RX12 509 yX3_begin : Cond) ∈ jw := jin (jt_6 _ (List.mem_of_getElem? (i := 99) (by decide +kernel))) (by decide +kernel)
set_option maxRecDepth 100000 in
theorem m_426 : (.instanceMethod yX3_begin : Cond) ∈ jw := jin (jt_6 _ (List.mem_of_getElem? (i := 100) (by decide +kernel))) (by decide +kernel)
set_option maxRecDepth 100000 in
theorem m_427 : (.selects RX3 yX3_begin yX3_begin : Cond) ∈ jw := jin (jt_6 _ (List.mem_of_getElem? (i := 101) (by decide +kernel))) (by decide +kernel)
set_option maxRecDepth 100000 in
theorem m_428 : (.initialized RX3 : Cond) ∈ jw := jin (jt_1 _ (List.mem_of_getElem? (i := 9) (by decide +kernel))) (by decide +kernel)
set_option maxRecDepth 100000 in
theorem m_429 : (.code yX3_begin cX3_begin 1 none : Cond) ∈ jw := jin (jt_6 _ (List.mem_of_getElem? (i := 102) (by decide +kernel))) (by decide +kernel)
set_option maxRecDepth 100000 in
theorem m_430 : (.fieldLink RX3 18 "BookOfAll$Lengths" "least" "[I" : Cond) ∈ jw := jin (jt_2 _ (List.mem_of_getElem? (i := 9) (by decide +kernel))) (by decide +kernel)
set_option maxRecDepth 100000 in
theorem m_431 : (.methodLink RX3 43 yX3_sumOf : Cond) ∈ jw := jin (jt_6 _ (List.mem_of_getElem? (i := 121) (by decide +kernel))) (by decide +kernel)
set_option maxRecDepth 100000 in
theorem m_432 : (.instanceMethod yX3_sumOf : Cond) ∈ jw := jin (jt_6 _ (List.mem_of_getElem? (i := 123) (by decide +kernel))) (by decide +kernel)
set_option maxRecDepth 100000 in
theorem m_433 : (.selects RX3 yX3_sumOf yX3_sumOf : Cond) ∈ jw := jin (jt_p _ (List.mem_of_getElem? (i := 74) (by decide +kernel))) (by decide +kernel)
set_option maxRecDepth 100000 in
theorem m_434 : (.code yX3_sumOf cX3_sumOf 4 (some .int) : Cond) ∈ jw := jin (jt_6 _ (List.mem_of_getElem? (i := 124) (by decide +kernel))) (by decide +kernel)
set_option maxRecDepth 100000 in
theorem m_435 : (.fieldLink RX3 21 "BookOfAll$Lengths" "most" "[I" : Cond) ∈ jw := jin (jt_2 _ (List.mem_of_getElem? (i := 10) (by decide +kernel))) (by decide +kernel)
set_option maxRecDepth 100000 in
theorem m_436 : (.fieldLink RX3 24 "BookOfAll$Lengths" "fitted" "[I" : Cond) ∈ jw := jin (jt_2 _ (List.mem_of_getElem? (i := 11) (by decide +kernel))) (by decide +kernel)
set_option maxRecDepth 100000 in
theorem m_437 : (.methodLink RX12 515 yX3_fitTo : Cond) ∈ jw := jin (jt_6 _ (List.mem_of_getElem? (i := 117) (by decide +kernel))) (by decide +kernel)
set_option maxRecDepth 100000 in
theorem m_438 : (.instanceMethod yX3_fitTo : Cond) ∈ jw := jin (jt_6 _ (List.mem_of_getElem? (i := 118) (by decide +kernel))) (by decide +kernel)
set_option maxRecDepth 100000 in
theorem m_439 : (.selects RX3 yX3_fitTo yX3_fitTo : Cond) ∈ jw := jin (jt_6 _ (List.mem_of_getElem? (i := 119) (by decide +kernel))) (by decide +kernel)
set_option maxRecDepth 100000 in
theorem m_440 : (.code yX3_fitTo cX3_fitTo 9 (some .boolean) : Cond) ∈ jw := jin (jt_6 _ (List.mem_of_getElem? (i := 120) (by decide +kernel))) (by decide +kernel)
set_option maxRecDepth 100000 in
theorem m_441 : (.methodLink RX12 500 yX12_fit : Cond) ∈ jw := jin (jt_6 _ (List.mem_of_getElem? (i := 95) (by decide +kernel))) (by decide +kernel)
set_option maxRecDepth 100000 in
theorem m_442 : (.instanceMethod yX12_fit : Cond) ∈ jw := jin (jt_6 _ (List.mem_of_getElem? (i := 97) (by decide +kernel))) (by decide +kernel)
set_option maxRecDepth 100000 in
theorem m_443 : (.selects RX12 yX12_fit yX12_fit : Cond) ∈ jw := jin (jt_p _ (List.mem_of_getElem? (i := 71) (by decide +kernel))) (by decide +kernel)
set_option maxRecDepth 100000 in
theorem m_444 : (.code yX12_fit cX12_fit 5 (some .boolean) : Cond) ∈ jw := jin (jt_6 _ (List.mem_of_getElem? (i := 98) (by decide +kernel))) (by decide +kernel)
set_option maxRecDepth 100000 in
theorem m_445 : (.methodLink RX12 503 yX3_differences : Cond) ∈ jw := jin (jt_6 _ (List.mem_of_getElem? (i := 132) (by decide +kernel))) (by decide +kernel)
set_option maxRecDepth 100000 in
theorem m_446 : (.instanceMethod yX3_differences : Cond) ∈ jw := jin (jt_6 _ (List.mem_of_getElem? (i := 133) (by decide +kernel))) (by decide +kernel)
set_option maxRecDepth 100000 in
theorem m_447 : (.selects RX3 yX3_differences yX3_differences : Cond) ∈ jw := jin (jt_6 _ (List.mem_of_getElem? (i := 134) (by decide +kernel))) (by decide +kernel)
set_option maxRecDepth 100000 in
theorem m_448 : (.code yX3_differences cX3_differences 3 (some .int) : Cond) ∈ jw := jin (jt_6 _ (List.mem_of_getElem? (i := 135) (by decide +kernel))) (by decide +kernel)
set_option maxRecDepth 100000 in
theorem m_449 : (.constant RJ6 265 1431655765 : Cond) ∈ jw := jin (jt_6 _ (List.mem_of_getElem? (i := 156) (by decide +kernel))) (by decide +kernel)
set_option maxRecDepth 100000 in
theorem m_450 : (.constant RJ6 266 858993459 : Cond) ∈ jw := jin (jt_6 _ (List.mem_of_getElem? (i := 157) (by decide +kernel))) (by decide +kernel)
set_option maxRecDepth 100000 in
theorem m_451 : (.constant RJ6 267 252645135 : Cond) ∈ jw := jin (jt_6 _ (List.mem_of_getElem? (i := 158) (by decide +kernel))) (by decide +kernel)
set_option maxRecDepth 100000 in
theorem m_452 : (.methodLink RX12 545 yJ6_bitCount_0f7a4 : Cond) ∈ jw := jin (jt_6 _ (List.mem_of_getElem? (i := 153) (by decide +kernel))) (by decide +kernel)
set_option maxRecDepth 100000 in
theorem m_453 : (.static yJ6_bitCount_0f7a4 : Cond) ∈ jw := jin (jt_6 _ (List.mem_of_getElem? (i := 154) (by decide +kernel))) (by decide +kernel)
set_option maxRecDepth 100000 in
theorem m_454 : (.initialized RJ6 : Cond) ∈ jw := jin (jt_1 _ (List.mem_of_getElem? (i := 24) (by decide +kernel))) (by decide +kernel)
set_option maxRecDepth 100000 in
theorem m_455 : (.code yJ6_bitCount_0f7a4 cJ6_bitCount_0f7a4 1 (some .int) : Cond) ∈ jw := jin (jt_6 _ (List.mem_of_getElem? (i := 155) (by decide +kernel))) (by decide +kernel)
set_option maxRecDepth 100000 in
theorem m_456 : (.constant RX12 544 1073741824 : Cond) ∈ jw := jin (jt_6 _ (List.mem_of_getElem? (i := 152) (by decide +kernel))) (by decide +kernel)
set_option maxRecDepth 100000 in
theorem m_457 : (.methodLink RX12 528 yX12_canGive : Cond) ∈ jw := jin (jt_6 _ (List.mem_of_getElem? (i := 148) (by decide +kernel))) (by decide +kernel)
set_option maxRecDepth 100000 in
theorem m_458 : (.instanceMethod yX12_canGive : Cond) ∈ jw := jin (jt_6 _ (List.mem_of_getElem? (i := 150) (by decide +kernel))) (by decide +kernel)
set_option maxRecDepth 100000 in
theorem m_459 : (.selects RX12 yX12_canGive yX12_canGive : Cond) ∈ jw := jin (jt_p _ (List.mem_of_getElem? (i := 76) (by decide +kernel))) (by decide +kernel)
set_option maxRecDepth 100000 in
theorem m_460 : (.code yX12_canGive cX12_canGive 6 (some .boolean) : Cond) ∈ jw := jin (jt_6 _ (List.mem_of_getElem? (i := 151) (by decide +kernel))) (by decide +kernel)
set_option maxRecDepth 100000 in
theorem m_461 : (.fieldLink RX12 92 "BookOfAll" "giver" "LBookOfAll$Giver;" : Cond) ∈ jw := jin (jt_2 _ (List.mem_of_getElem? (i := 103) (by decide +kernel))) (by decide +kernel)
set_option maxRecDepth 100000 in
theorem m_462 : (.fieldLink RX1 37 "BookOfAll$Giver" "articleCount" "I" : Cond) ∈ jw := jin (jt_2 _ (List.mem_of_getElem? (i := 39) (by decide +kernel))) (by decide +kernel)
set_option maxRecDepth 100000 in
theorem m_463 : (.fieldLink RX1 41 "BookOfAll$Giver" "handCount" "I" : Cond) ∈ jw := jin (jt_2 _ (List.mem_of_getElem? (i := 43) (by decide +kernel))) (by decide +kernel)
set_option maxRecDepth 100000 in
theorem m_464 : (.methodLink RX12 549 yX1_begin : Cond) ∈ jw := jin (jt_6 _ (List.mem_of_getElem? (i := 163) (by decide +kernel))) (by decide +kernel)
set_option maxRecDepth 100000 in
theorem m_465 : (.instanceMethod yX1_begin : Cond) ∈ jw := jin (jt_6 _ (List.mem_of_getElem? (i := 164) (by decide +kernel))) (by decide +kernel)
set_option maxRecDepth 100000 in
theorem m_466 : (.selects RX1 yX1_begin yX1_begin : Cond) ∈ jw := jin (jt_6 _ (List.mem_of_getElem? (i := 165) (by decide +kernel))) (by decide +kernel)
set_option maxRecDepth 100000 in
theorem m_467 : (.initialized RX1 : Cond) ∈ jw := jin (jt_1 _ (List.mem_of_getElem? (i := 10) (by decide +kernel))) (by decide +kernel)
set_option maxRecDepth 100000 in
theorem m_468 : (.code yX1_begin cX1_begin 1 none : Cond) ∈ jw := jin (jt_6 _ (List.mem_of_getElem? (i := 166) (by decide +kernel))) (by decide +kernel)
set_option maxRecDepth 100000 in
theorem m_469 : (.methodLink RX12 532 yX12_addHands : Cond) ∈ jw := jin (jt_6 _ (List.mem_of_getElem? (i := 159) (by decide +kernel))) (by decide +kernel)
set_option maxRecDepth 100000 in
theorem m_470 : (.instanceMethod yX12_addHands : Cond) ∈ jw := jin (jt_6 _ (List.mem_of_getElem? (i := 161) (by decide +kernel))) (by decide +kernel)
set_option maxRecDepth 100000 in
theorem m_471 : (.selects RX12 yX12_addHands yX12_addHands : Cond) ∈ jw := jin (jt_p _ (List.mem_of_getElem? (i := 77) (by decide +kernel))) (by decide +kernel)
set_option maxRecDepth 100000 in
theorem m_472 : (.code yX12_addHands cX12_addHands 5 (some .boolean) : Cond) ∈ jw := jin (jt_6 _ (List.mem_of_getElem? (i := 162) (by decide +kernel))) (by decide +kernel)
set_option maxRecDepth 100000 in
theorem m_473 : (.fieldLink RX12 99 "BookOfAll" "robber" "LBookOfAll$Thief;" : Cond) ∈ jw := jin (jt_2 _ (List.mem_of_getElem? (i := 104) (by decide +kernel))) (by decide +kernel)
set_option maxRecDepth 100000 in
theorem m_474 : (.fieldLink RX10 18 "BookOfAll$Thief" "size" "I" : Cond) ∈ jw := jin (jt_2 _ (List.mem_of_getElem? (i := 75) (by decide +kernel))) (by decide +kernel)
set_option maxRecDepth 100000 in
theorem m_475 : (.fieldLink RX10 11 "BookOfAll$Thief" "row" "[I" : Cond) ∈ jw := jin (jt_2 _ (List.mem_of_getElem? (i := 74) (by decide +kernel))) (by decide +kernel)
set_option maxRecDepth 100000 in
theorem m_476 : (.methodLink RX12 572 yX10_add : Cond) ∈ jw := jin (jt_6 _ (List.mem_of_getElem? (i := 235) (by decide +kernel))) (by decide +kernel)
set_option maxRecDepth 100000 in
theorem m_477 : (.instanceMethod yX10_add : Cond) ∈ jw := jin (jt_6 _ (List.mem_of_getElem? (i := 236) (by decide +kernel))) (by decide +kernel)
set_option maxRecDepth 100000 in
theorem m_478 : (.selects RX10 yX10_add yX10_add : Cond) ∈ jw := jin (jt_6 _ (List.mem_of_getElem? (i := 237) (by decide +kernel))) (by decide +kernel)
set_option maxRecDepth 100000 in
theorem m_479 : (.initialized RX10 : Cond) ∈ jw := jin (jt_1 _ (List.mem_of_getElem? (i := 11) (by decide +kernel))) (by decide +kernel)
set_option maxRecDepth 100000 in
theorem m_480 : (.code yX10_add cX10_add 2 (some .int) : Cond) ∈ jw := jin (jt_6 _ (List.mem_of_getElem? (i := 238) (by decide +kernel))) (by decide +kernel)
set_option maxRecDepth 100000 in
theorem m_481 : (.fieldLink RX12 574 "BookOfAll$Thief" "size" "I" : Cond) ∈ jw := jin (jt_2 _ (List.mem_of_getElem? (i := 76) (by decide +kernel))) (by decide +kernel)
set_option maxRecDepth 100000 in
theorem m_482 : (.methodLink RX12 599 yX12_countOfHand : Cond) ∈ jw := jin (jt_7 _ (List.mem_of_getElem? (i := 45) (by decide +kernel))) (by decide +kernel)
set_option maxRecDepth 100000 in
theorem m_483 : (.instanceMethod yX12_countOfHand : Cond) ∈ jw := jin (jt_7 _ (List.mem_of_getElem? (i := 47) (by decide +kernel))) (by decide +kernel)
set_option maxRecDepth 100000 in
theorem m_484 : (.selects RX12 yX12_countOfHand yX12_countOfHand : Cond) ∈ jw := jin (jt_p _ (List.mem_of_getElem? (i := 86) (by decide +kernel))) (by decide +kernel)
set_option maxRecDepth 100000 in
theorem m_485 : (.code yX12_countOfHand cX12_countOfHand 5 (some .int) : Cond) ∈ jw := jin (jt_7 _ (List.mem_of_getElem? (i := 48) (by decide +kernel))) (by decide +kernel)
set_option maxRecDepth 100000 in
theorem m_486 : (.fieldLink RX12 590 "BookOfAll$Rules" "sheetCount" "I" : Cond) ∈ jw := jin (jt_1 _ (List.mem_of_getElem? (i := 99) (by decide +kernel))) (by decide +kernel)
set_option maxRecDepth 100000 in
theorem m_487 : (.fieldLink RX12 593 "BookOfAll$News" "errata" "I" : Cond) ∈ jw := jin (jt_1 _ (List.mem_of_getElem? (i := 213) (by decide +kernel))) (by decide +kernel)
set_option maxRecDepth 100000 in
theorem m_488 : (.methodLink RX12 596 yX12_payOfAll : Cond) ∈ jw := jin (jt_7 _ (List.mem_of_getElem? (i := 41) (by decide +kernel))) (by decide +kernel)
set_option maxRecDepth 100000 in
theorem m_489 : (.instanceMethod yX12_payOfAll : Cond) ∈ jw := jin (jt_7 _ (List.mem_of_getElem? (i := 43) (by decide +kernel))) (by decide +kernel)
set_option maxRecDepth 100000 in
theorem m_490 : (.selects RX12 yX12_payOfAll yX12_payOfAll : Cond) ∈ jw := jin (jt_p _ (List.mem_of_getElem? (i := 85) (by decide +kernel))) (by decide +kernel)
set_option maxRecDepth 100000 in
theorem m_491 : (.code yX12_payOfAll cX12_payOfAll 4 (some .int) : Cond) ∈ jw := jin (jt_7 _ (List.mem_of_getElem? (i := 44) (by decide +kernel))) (by decide +kernel)
set_option maxRecDepth 100000 in
theorem m_492 : (.fieldLink RX13 252 "BookOfAllModel" "size" "I" : Cond) ∈ jw := jin (jt_7 _ (List.mem_of_getElem? (i := 56) (by decide +kernel))) (by decide +kernel)
set_option maxRecDepth 100000 in
theorem m_493 : (.methodLink RX13 256 yX13_in : Cond) ∈ jw := jin (jt_8 _ (List.mem_of_getElem? (i := 136) (by decide +kernel))) (by decide +kernel)
set_option maxRecDepth 100000 in
theorem m_494 : (.static yX13_in : Cond) ∈ jw := jin (jt_8 _ (List.mem_of_getElem? (i := 137) (by decide +kernel))) (by decide +kernel)
set_option maxRecDepth 100000 in
theorem m_495 : (.code yX13_in cX13_in 3 (some .boolean) : Cond) ∈ jw := jin (jt_8 _ (List.mem_of_getElem? (i := 138) (by decide +kernel))) (by decide +kernel)
set_option maxRecDepth 100000 in
theorem m_496 : (.fieldLink RX13 272 "BookOfAllModel" "at" "I" : Cond) ∈ jw := jin (jt_7 _ (List.mem_of_getElem? (i := 57) (by decide +kernel))) (by decide +kernel)
set_option maxRecDepth 100000 in
theorem m_497 : (.fieldLink RX13 295 "BookOfAllModel" "coming" "I" : Cond) ∈ jw := jin (jt_7 _ (List.mem_of_getElem? (i := 62) (by decide +kernel))) (by decide +kernel)
set_option maxRecDepth 100000 in
theorem m_498 : (.fieldLink RX13 304 "BookOfAllModel" "deep" "I" : Cond) ∈ jw := jin (jt_7 _ (List.mem_of_getElem? (i := 63) (by decide +kernel))) (by decide +kernel)
set_option maxRecDepth 100000 in
theorem m_499 : (.fieldLink RX13 298 "BookOfAllModel" "doing" "I" : Cond) ∈ jw := jin (jt_7 _ (List.mem_of_getElem? (i := 67) (by decide +kernel))) (by decide +kernel)
set_option maxRecDepth 100000 in
theorem m_500 : (.fieldLink RX13 361 "BookOfAllModel" "skips" "I" : Cond) ∈ jw := jin (jt_7 _ (List.mem_of_getElem? (i := 70) (by decide +kernel))) (by decide +kernel)
set_option maxRecDepth 100000 in
theorem m_501 : (.fieldLink RX13 275 "BookOfAllModel" "tokenAt" "I" : Cond) ∈ jw := jin (jt_7 _ (List.mem_of_getElem? (i := 59) (by decide +kernel))) (by decide +kernel)
set_option maxRecDepth 100000 in
theorem m_502 : (.fieldLink RX13 278 "BookOfAllModel" "tokenValue" "I" : Cond) ∈ jw := jin (jt_7 _ (List.mem_of_getElem? (i := 60) (by decide +kernel))) (by decide +kernel)
set_option maxRecDepth 100000 in
theorem m_503 : (.fieldLink RX13 281 "BookOfAllModel" "token" "I" : Cond) ∈ jw := jin (jt_7 _ (List.mem_of_getElem? (i := 58) (by decide +kernel))) (by decide +kernel)
set_option maxRecDepth 100000 in
theorem m_504 : (.methodLink RX13 301 yX13_next : Cond) ∈ jw := jin (jt_8 _ (List.mem_of_getElem? (i := 147) (by decide +kernel))) (by decide +kernel)
set_option maxRecDepth 100000 in
theorem m_505 : (.instanceMethod yX13_next : Cond) ∈ jw := jin (jt_8 _ (List.mem_of_getElem? (i := 149) (by decide +kernel))) (by decide +kernel)
set_option maxRecDepth 100000 in
theorem m_506 : (.selects RX13 yX13_next yX13_next : Cond) ∈ jw := jin (jt_p _ (List.mem_of_getElem? (i := 88) (by decide +kernel))) (by decide +kernel)
set_option maxRecDepth 100000 in
theorem m_507 : (.code yX13_next cX13_next 2 none : Cond) ∈ jw := jin (jt_8 _ (List.mem_of_getElem? (i := 150) (by decide +kernel))) (by decide +kernel)
set_option maxRecDepth 100000 in
theorem m_508 : (.methodLink RX13 307 yX13_push : Cond) ∈ jw := jin (jt_8 _ (List.mem_of_getElem? (i := 165) (by decide +kernel))) (by decide +kernel)
set_option maxRecDepth 100000 in
theorem m_509 : (.instanceMethod yX13_push : Cond) ∈ jw := jin (jt_8 _ (List.mem_of_getElem? (i := 167) (by decide +kernel))) (by decide +kernel)
set_option maxRecDepth 100000 in
theorem m_510 : (.selects RX13 yX13_push yX13_push : Cond) ∈ jw := jin (jt_p _ (List.mem_of_getElem? (i := 90) (by decide +kernel))) (by decide +kernel)
set_option maxRecDepth 100000 in
theorem m_511 : (.code yX13_push cX13_push 2 none : Cond) ∈ jw := jin (jt_8 _ (List.mem_of_getElem? (i := 168) (by decide +kernel))) (by decide +kernel)
set_option maxRecDepth 100000 in
theorem m_512 : (.methodLink RX13 322 yX13_clauses : Cond) ∈ jw := jin (jt_8 _ (List.mem_of_getElem? (i := 185) (by decide +kernel))) (by decide +kernel)
set_option maxRecDepth 100000 in
theorem m_513 : (.instanceMethod yX13_clauses : Cond) ∈ jw := jin (jt_8 _ (List.mem_of_getElem? (i := 187) (by decide +kernel))) (by decide +kernel)
set_option maxRecDepth 100000 in
theorem m_514 : (.selects RX13 yX13_clauses yX13_clauses : Cond) ∈ jw := jin (jt_p _ (List.mem_of_getElem? (i := 95) (by decide +kernel))) (by decide +kernel)
set_option maxRecDepth 100000 in
theorem m_515 : (.code yX13_clauses cX13_clauses 2 (some .boolean) : Cond) ∈ jw := jin (jt_8 _ (List.mem_of_getElem? (i := 188) (by decide +kernel))) (by decide +kernel)
set_option maxRecDepth 100000 in
theorem m_516 : (.methodLink RX13 368 yX13_steps : Cond) ∈ jw := jin (jt_8 _ (List.mem_of_getElem? (i := 169) (by decide +kernel))) (by decide +kernel)
set_option maxRecDepth 100000 in
theorem m_517 : (.instanceMethod yX13_steps : Cond) ∈ jw := jin (jt_8 _ (List.mem_of_getElem? (i := 171) (by decide +kernel))) (by decide +kernel)
set_option maxRecDepth 100000 in
theorem m_518 : (.selects RX13 yX13_steps yX13_steps : Cond) ∈ jw := jin (jt_p _ (List.mem_of_getElem? (i := 91) (by decide +kernel))) (by decide +kernel)
set_option maxRecDepth 100000 in
theorem m_519 : (.code yX13_steps cX13_steps 2 (some .boolean) : Cond) ∈ jw := jin (jt_8 _ (List.mem_of_getElem? (i := 172) (by decide +kernel))) (by decide +kernel)
set_option maxRecDepth 100000 in
theorem m_520 : (.methodLink RX13 371 yX13_reads : Cond) ∈ jw := jin (jt_8 _ (List.mem_of_getElem? (i := 143) (by decide +kernel))) (by decide +kernel)
set_option maxRecDepth 100000 in
theorem m_521 : (.instanceMethod yX13_reads : Cond) ∈ jw := jin (jt_8 _ (List.mem_of_getElem? (i := 145) (by decide +kernel))) (by decide +kernel)
set_option maxRecDepth 100000 in
theorem m_522 : (.selects RX13 yX13_reads yX13_reads : Cond) ∈ jw := jin (jt_p _ (List.mem_of_getElem? (i := 87) (by decide +kernel))) (by decide +kernel)
set_option maxRecDepth 100000 in
theorem m_523 : (.code yX13_reads cX13_reads 2 (some .int) : Cond) ∈ jw := jin (jt_8 _ (List.mem_of_getElem? (i := 146) (by decide +kernel))) (by decide +kernel)
set_option maxRecDepth 100000 in
theorem m_524 : (.fieldLink RX13 374 "BookOfAllModel" "sheets" "I" : Cond) ∈ jw := jin (jt_7 _ (List.mem_of_getElem? (i := 73) (by decide +kernel))) (by decide +kernel)
set_option maxRecDepth 100000 in
theorem m_525 : (.fieldLink RX13 383 "BookOfAllModel" "now" "I" : Cond) ∈ jw := jin (jt_7 _ (List.mem_of_getElem? (i := 85) (by decide +kernel))) (by decide +kernel)
set_option maxRecDepth 100000 in
theorem m_526 : (.fieldLink RX13 380 "BookOfAllModel" "forced" "I" : Cond) ∈ jw := jin (jt_7 _ (List.mem_of_getElem? (i := 81) (by decide +kernel))) (by decide +kernel)
set_option maxRecDepth 100000 in
theorem m_527 : (.methodLink RX13 386 yX13_inForce : Cond) ∈ jw := jin (jt_9 _ (List.mem_of_getElem? (i := 9) (by decide +kernel))) (by decide +kernel)
set_option maxRecDepth 100000 in
theorem m_528 : (.instanceMethod yX13_inForce : Cond) ∈ jw := jin (jt_9 _ (List.mem_of_getElem? (i := 11) (by decide +kernel))) (by decide +kernel)
set_option maxRecDepth 100000 in
theorem m_529 : (.selects RX13 yX13_inForce yX13_inForce : Cond) ∈ jw := jin (jt_p _ (List.mem_of_getElem? (i := 107) (by decide +kernel))) (by decide +kernel)
set_option maxRecDepth 100000 in
theorem m_530 : (.code yX13_inForce cX13_inForce 5 (some .int) : Cond) ∈ jw := jin (jt_9 _ (List.mem_of_getElem? (i := 12) (by decide +kernel))) (by decide +kernel)
set_option maxRecDepth 100000 in
theorem m_531 : (.methodLink RX13 424 yX13_headingOf : Cond) ∈ jw := jin (jt_9 _ (List.mem_of_getElem? (i := 25) (by decide +kernel))) (by decide +kernel)
set_option maxRecDepth 100000 in
theorem m_532 : (.instanceMethod yX13_headingOf : Cond) ∈ jw := jin (jt_9 _ (List.mem_of_getElem? (i := 27) (by decide +kernel))) (by decide +kernel)
set_option maxRecDepth 100000 in
theorem m_533 : (.selects RX13 yX13_headingOf yX13_headingOf : Cond) ∈ jw := jin (jt_p _ (List.mem_of_getElem? (i := 108) (by decide +kernel))) (by decide +kernel)
set_option maxRecDepth 100000 in
theorem m_534 : (.code yX13_headingOf cX13_headingOf 9 (some .int) : Cond) ∈ jw := jin (jt_9 _ (List.mem_of_getElem? (i := 28) (by decide +kernel))) (by decide +kernel)
set_option maxRecDepth 100000 in
theorem m_535 : (.fieldLink RX13 418 "BookOfAllModel" "entries" "I" : Cond) ∈ jw := jin (jt_7 _ (List.mem_of_getElem? (i := 92) (by decide +kernel))) (by decide +kernel)
set_option maxRecDepth 100000 in
theorem m_536 : (.methodLink RX13 427 yX13_newEntry : Cond) ∈ jw := jin (jt_9 _ (List.mem_of_getElem? (i := 29) (by decide +kernel))) (by decide +kernel)
set_option maxRecDepth 100000 in
theorem m_537 : (.instanceMethod yX13_newEntry : Cond) ∈ jw := jin (jt_9 _ (List.mem_of_getElem? (i := 31) (by decide +kernel))) (by decide +kernel)
set_option maxRecDepth 100000 in
theorem m_538 : (.selects RX13 yX13_newEntry yX13_newEntry : Cond) ∈ jw := jin (jt_p _ (List.mem_of_getElem? (i := 109) (by decide +kernel))) (by decide +kernel)
set_option maxRecDepth 100000 in
theorem m_539 : (.code yX13_newEntry cX13_newEntry 4 (some .int) : Cond) ∈ jw := jin (jt_9 _ (List.mem_of_getElem? (i := 32) (by decide +kernel))) (by decide +kernel)
set_option maxRecDepth 100000 in
theorem m_540 : (.methodLink RX13 421 yX13_isEntry : Cond) ∈ jw := jin (jt_9 _ (List.mem_of_getElem? (i := 37) (by decide +kernel))) (by decide +kernel)
set_option maxRecDepth 100000 in
theorem m_541 : (.instanceMethod yX13_isEntry : Cond) ∈ jw := jin (jt_9 _ (List.mem_of_getElem? (i := 39) (by decide +kernel))) (by decide +kernel)
set_option maxRecDepth 100000 in
theorem m_542 : (.selects RX13 yX13_isEntry yX13_isEntry : Cond) ∈ jw := jin (jt_p _ (List.mem_of_getElem? (i := 110) (by decide +kernel))) (by decide +kernel)
set_option maxRecDepth 100000 in
theorem m_543 : (.code yX13_isEntry cX13_isEntry 2 (some .boolean) : Cond) ∈ jw := jin (jt_9 _ (List.mem_of_getElem? (i := 40) (by decide +kernel))) (by decide +kernel)
set_option maxRecDepth 100000 in
theorem m_544 : (.methodLink RX13 436 yX13_canGo : Cond) ∈ jw := jin (jt_9 _ (List.mem_of_getElem? (i := 93) (by decide +kernel))) (by decide +kernel)
set_option maxRecDepth 100000 in
theorem m_545 : (.instanceMethod yX13_canGo : Cond) ∈ jw := jin (jt_9 _ (List.mem_of_getElem? (i := 95) (by decide +kernel))) (by decide +kernel)
set_option maxRecDepth 100000 in
theorem m_546 : (.selects RX13 yX13_canGo yX13_canGo : Cond) ∈ jw := jin (jt_p _ (List.mem_of_getElem? (i := 117) (by decide +kernel))) (by decide +kernel)
set_option maxRecDepth 100000 in
theorem m_547 : (.code yX13_canGo cX13_canGo 2 (some .boolean) : Cond) ∈ jw := jin (jt_9 _ (List.mem_of_getElem? (i := 96) (by decide +kernel))) (by decide +kernel)
set_option maxRecDepth 100000 in
theorem m_548 : (.methodLink RX13 377 yX13_isVolume : Cond) ∈ jw := jin (jt_9 _ (List.mem_of_getElem? (i := 2) (by decide +kernel))) (by decide +kernel)
set_option maxRecDepth 100000 in
theorem m_549 : (.static yX13_isVolume : Cond) ∈ jw := jin (jt_9 _ (List.mem_of_getElem? (i := 3) (by decide +kernel))) (by decide +kernel)
set_option maxRecDepth 100000 in
theorem m_550 : (.code yX13_isVolume cX13_isVolume 1 (some .boolean) : Cond) ∈ jw := jin (jt_9 _ (List.mem_of_getElem? (i := 4) (by decide +kernel))) (by decide +kernel)
set_option maxRecDepth 100000 in
theorem m_551 : (.methodLink RX13 442 yX13_orders : Cond) ∈ jw := jin (jt_9 _ (List.mem_of_getElem? (i := 105) (by decide +kernel))) (by decide +kernel)
set_option maxRecDepth 100000 in
theorem m_552 : (.instanceMethod yX13_orders : Cond) ∈ jw := jin (jt_9 _ (List.mem_of_getElem? (i := 107) (by decide +kernel))) (by decide +kernel)
set_option maxRecDepth 100000 in
theorem m_553 : (.selects RX13 yX13_orders yX13_orders : Cond) ∈ jw := jin (jt_p _ (List.mem_of_getElem? (i := 118) (by decide +kernel))) (by decide +kernel)
set_option maxRecDepth 100000 in
theorem m_554 : (.code yX13_orders cX13_orders 5 (some .int) : Cond) ∈ jw := jin (jt_9 _ (List.mem_of_getElem? (i := 108) (by decide +kernel))) (by decide +kernel)
set_option maxRecDepth 100000 in
theorem m_555 : (.constant RX13 448 (-40000) : Cond) ∈ jw := jin (jt_9 _ (List.mem_of_getElem? (i := 125) (by decide +kernel))) (by decide +kernel)
set_option maxRecDepth 100000 in
theorem m_556 : (.fieldLink RX13 445 "BookOfAllModel" "hands" "I" : Cond) ∈ jw := jin (jt_7 _ (List.mem_of_getElem? (i := 105) (by decide +kernel))) (by decide +kernel)
set_option maxRecDepth 100000 in
theorem m_557 : (.methodLink RX13 449 yX13_isHand : Cond) ∈ jw := jin (jt_9 _ (List.mem_of_getElem? (i := 130) (by decide +kernel))) (by decide +kernel)
set_option maxRecDepth 100000 in
theorem m_558 : (.instanceMethod yX13_isHand : Cond) ∈ jw := jin (jt_9 _ (List.mem_of_getElem? (i := 132) (by decide +kernel))) (by decide +kernel)
set_option maxRecDepth 100000 in
theorem m_559 : (.selects RX13 yX13_isHand yX13_isHand : Cond) ∈ jw := jin (jt_p _ (List.mem_of_getElem? (i := 121) (by decide +kernel))) (by decide +kernel)
set_option maxRecDepth 100000 in
theorem m_560 : (.code yX13_isHand cX13_isHand 2 (some .boolean) : Cond) ∈ jw := jin (jt_9 _ (List.mem_of_getElem? (i := 133) (by decide +kernel))) (by decide +kernel)
set_option maxRecDepth 100000 in
theorem m_561 : (.methodLink RX13 467 yX13_isArticle : Cond) ∈ jw := jin (jt_9 _ (List.mem_of_getElem? (i := 142) (by decide +kernel))) (by decide +kernel)
set_option maxRecDepth 100000 in
theorem m_562 : (.instanceMethod yX13_isArticle : Cond) ∈ jw := jin (jt_9 _ (List.mem_of_getElem? (i := 144) (by decide +kernel))) (by decide +kernel)
set_option maxRecDepth 100000 in
theorem m_563 : (.selects RX13 yX13_isArticle yX13_isArticle : Cond) ∈ jw := jin (jt_p _ (List.mem_of_getElem? (i := 123) (by decide +kernel))) (by decide +kernel)
set_option maxRecDepth 100000 in
theorem m_564 : (.code yX13_isArticle cX13_isArticle 2 (some .boolean) : Cond) ∈ jw := jin (jt_9 _ (List.mem_of_getElem? (i := 145) (by decide +kernel))) (by decide +kernel)
set_option maxRecDepth 100000 in
theorem m_565 : (.methodLink RX13 473 yX13_mayBeGiven : Cond) ∈ jw := jin (jt_9 _ (List.mem_of_getElem? (i := 138) (by decide +kernel))) (by decide +kernel)
set_option maxRecDepth 100000 in
theorem m_566 : (.instanceMethod yX13_mayBeGiven : Cond) ∈ jw := jin (jt_9 _ (List.mem_of_getElem? (i := 140) (by decide +kernel))) (by decide +kernel)
set_option maxRecDepth 100000 in
theorem m_567 : (.selects RX13 yX13_mayBeGiven yX13_mayBeGiven : Cond) ∈ jw := jin (jt_p _ (List.mem_of_getElem? (i := 122) (by decide +kernel))) (by decide +kernel)
set_option maxRecDepth 100000 in
theorem m_568 : (.code yX13_mayBeGiven cX13_mayBeGiven 4 (some .boolean) : Cond) ∈ jw := jin (jt_9 _ (List.mem_of_getElem? (i := 141) (by decide +kernel))) (by decide +kernel)
set_option maxRecDepth 100000 in
theorem m_569 : (.fieldLink RX13 476 "BookOfAllModel" "told" "I" : Cond) ∈ jw := jin (jt_7 _ (List.mem_of_getElem? (i := 121) (by decide +kernel))) (by decide +kernel)
set_option maxRecDepth 100000 in
theorem m_570 : (.methodLink RX13 479 yX13_knownOf : Cond) ∈ jw := jin (jt_9 _ (List.mem_of_getElem? (i := 174) (by decide +kernel))) (by decide +kernel)
set_option maxRecDepth 100000 in
theorem m_571 : (.instanceMethod yX13_knownOf : Cond) ∈ jw := jin (jt_9 _ (List.mem_of_getElem? (i := 176) (by decide +kernel))) (by decide +kernel)
set_option maxRecDepth 100000 in
theorem m_572 : (.selects RX13 yX13_knownOf yX13_knownOf : Cond) ∈ jw := jin (jt_p _ (List.mem_of_getElem? (i := 130) (by decide +kernel))) (by decide +kernel)
set_option maxRecDepth 100000 in
theorem m_573 : (.code yX13_knownOf cX13_knownOf 4 (some .int) : Cond) ∈ jw := jin (jt_9 _ (List.mem_of_getElem? (i := 177) (by decide +kernel))) (by decide +kernel)
set_option maxRecDepth 100000 in
theorem m_574 : (.fieldLink RX13 452 "BookOfAllModel" "lines" "I" : Cond) ∈ jw := jin (jt_7 _ (List.mem_of_getElem? (i := 111) (by decide +kernel))) (by decide +kernel)
set_option maxRecDepth 100000 in
theorem m_575 : (.methodLink RX13 497 yX13_isLine : Cond) ∈ jw := jin (jt_9 _ (List.mem_of_getElem? (i := 202) (by decide +kernel))) (by decide +kernel)
set_option maxRecDepth 100000 in
theorem m_576 : (.instanceMethod yX13_isLine : Cond) ∈ jw := jin (jt_9 _ (List.mem_of_getElem? (i := 204) (by decide +kernel))) (by decide +kernel)
set_option maxRecDepth 100000 in
theorem m_577 : (.selects RX13 yX13_isLine yX13_isLine : Cond) ∈ jw := jin (jt_p _ (List.mem_of_getElem? (i := 132) (by decide +kernel))) (by decide +kernel)
set_option maxRecDepth 100000 in
theorem m_578 : (.code yX13_isLine cX13_isLine 2 (some .boolean) : Cond) ∈ jw := jin (jt_9 _ (List.mem_of_getElem? (i := 205) (by decide +kernel))) (by decide +kernel)
set_option maxRecDepth 100000 in
theorem m_579 : (.fieldLink RX13 488 "BookOfAllModel" "errata" "I" : Cond) ∈ jw := jin (jt_7 _ (List.mem_of_getElem? (i := 126) (by decide +kernel))) (by decide +kernel)
set_option maxRecDepth 100000 in
theorem m_580 : (.methodLink RX13 506 yX13_canBeSet : Cond) ∈ jw := jin (jt_10 _ (List.mem_of_getElem? (i := 2) (by decide +kernel))) (by decide +kernel)
set_option maxRecDepth 100000 in
theorem m_581 : (.instanceMethod yX13_canBeSet : Cond) ∈ jw := jin (jt_10 _ (List.mem_of_getElem? (i := 4) (by decide +kernel))) (by decide +kernel)
set_option maxRecDepth 100000 in
theorem m_582 : (.selects RX13 yX13_canBeSet yX13_canBeSet : Cond) ∈ jw := jin (jt_p _ (List.mem_of_getElem? (i := 136) (by decide +kernel))) (by decide +kernel)
set_option maxRecDepth 100000 in
theorem m_583 : (.code yX13_canBeSet cX13_canBeSet 5 (some .boolean) : Cond) ∈ jw := jin (jt_10 _ (List.mem_of_getElem? (i := 5) (by decide +kernel))) (by decide +kernel)
set_option maxRecDepth 100000 in
theorem m_584 : (.fieldLink RX13 515 "BookOfAllModel" "differs" "I" : Cond) ∈ jw := jin (jt_7 _ (List.mem_of_getElem? (i := 145) (by decide +kernel))) (by decide +kernel)
set_option maxRecDepth 100000 in
theorem m_585 : (.methodLink RX13 521 yX13_bringsTo : Cond) ∈ jw := jin (jt_10 _ (List.mem_of_getElem? (i := 42) (by decide +kernel))) (by decide +kernel)
set_option maxRecDepth 100000 in
theorem m_586 : (.instanceMethod yX13_bringsTo : Cond) ∈ jw := jin (jt_10 _ (List.mem_of_getElem? (i := 44) (by decide +kernel))) (by decide +kernel)
set_option maxRecDepth 100000 in
theorem m_587 : (.selects RX13 yX13_bringsTo yX13_bringsTo : Cond) ∈ jw := jin (jt_p _ (List.mem_of_getElem? (i := 139) (by decide +kernel))) (by decide +kernel)
set_option maxRecDepth 100000 in
theorem m_588 : (.code yX13_bringsTo cX13_bringsTo 13 (some .int) : Cond) ∈ jw := jin (jt_10 _ (List.mem_of_getElem? (i := 45) (by decide +kernel))) (by decide +kernel)
set_option maxRecDepth 100000 in
theorem m_589 : (.constant RX13 524 1073741824 : Cond) ∈ jw := jin (jt_10 _ (List.mem_of_getElem? (i := 61) (by decide +kernel))) (by decide +kernel)
set_option maxRecDepth 100000 in
theorem m_590 : (.methodLink RX13 543 yX13_gives : Cond) ∈ jw := jin (jt_10 _ (List.mem_of_getElem? (i := 57) (by decide +kernel))) (by decide +kernel)
set_option maxRecDepth 100000 in
theorem m_591 : (.instanceMethod yX13_gives : Cond) ∈ jw := jin (jt_10 _ (List.mem_of_getElem? (i := 59) (by decide +kernel))) (by decide +kernel)
set_option maxRecDepth 100000 in
theorem m_592 : (.selects RX13 yX13_gives yX13_gives : Cond) ∈ jw := jin (jt_p _ (List.mem_of_getElem? (i := 140) (by decide +kernel))) (by decide +kernel)
set_option maxRecDepth 100000 in
theorem m_593 : (.code yX13_gives cX13_gives 7 (some .boolean) : Cond) ∈ jw := jin (jt_10 _ (List.mem_of_getElem? (i := 60) (by decide +kernel))) (by decide +kernel)
set_option maxRecDepth 100000 in
theorem m_594 : (.fieldLink RX13 546 "BookOfAllModel" "stolen" "I" : Cond) ∈ jw := jin (jt_7 _ (List.mem_of_getElem? (i := 133) (by decide +kernel))) (by decide +kernel)
set_option maxRecDepth 100000 in
theorem m_595 : (.methodLink RX12 1 objectInit : Cond) ∈ jw := jin (jt_1 _ (List.mem_of_getElem? (i := 30) (by decide +kernel))) (by decide +kernel)
set_option maxRecDepth 100000 in
theorem m_596 : (.classLink RX12 7 RX7 : Cond) ∈ jw := jin (jt_1 _ (List.mem_of_getElem? (i := 33) (by decide +kernel))) (by decide +kernel)
set_option maxRecDepth 100000 in
theorem m_597 : (.instantiable RX7 15 : Cond) ∈ jw := jin (jt_1 _ (List.mem_of_getElem? (i := 34) (by decide +kernel))) (by decide +kernel)
set_option maxRecDepth 100000 in
theorem m_598 : (.methodLink RX7 3 objectInit : Cond) ∈ jw := jin (jt_1 _ (List.mem_of_getElem? (i := 38) (by decide +kernel))) (by decide +kernel)
set_option maxRecDepth 100000 in
theorem m_599 : (.code yX7_init cX7_init 1 none : Cond) ∈ jw := jin (jt_1 _ (List.mem_of_getElem? (i := 37) (by decide +kernel))) (by decide +kernel)
set_option maxRecDepth 100000 in
theorem m_600 : (.instanceMethod yX7_init : Cond) ∈ jw := jin (jt_1 _ (List.mem_of_getElem? (i := 36) (by decide +kernel))) (by decide +kernel)
set_option maxRecDepth 100000 in
theorem m_601 : (.classLink RX12 16 RX8 : Cond) ∈ jw := jin (jt_1 _ (List.mem_of_getElem? (i := 89) (by decide +kernel))) (by decide +kernel)
set_option maxRecDepth 100000 in
theorem m_602 : (.instantiable RX8 8 : Cond) ∈ jw := jin (jt_1 _ (List.mem_of_getElem? (i := 90) (by decide +kernel))) (by decide +kernel)
set_option maxRecDepth 100000 in
theorem m_603 : (.methodLink RX8 3 objectInit : Cond) ∈ jw := jin (jt_1 _ (List.mem_of_getElem? (i := 94) (by decide +kernel))) (by decide +kernel)
set_option maxRecDepth 100000 in
theorem m_604 : (.classLink RX8 11 RX9 : Cond) ∈ jw := jin (jt_1 _ (List.mem_of_getElem? (i := 95) (by decide +kernel))) (by decide +kernel)
set_option maxRecDepth 100000 in
theorem m_605 : (.fieldLink RX8 17 "BookOfAll$Rules" "putSheet" "[I" : Cond) ∈ jw := jin (jt_1 _ (List.mem_of_getElem? (i := 100) (by decide +kernel))) (by decide +kernel)
set_option maxRecDepth 100000 in
theorem m_606 : (.fieldLink RX8 21 "BookOfAll$Rules" "putVolume" "[I" : Cond) ∈ jw := jin (jt_1 _ (List.mem_of_getElem? (i := 101) (by decide +kernel))) (by decide +kernel)
set_option maxRecDepth 100000 in
theorem m_607 : (.fieldLink RX8 24 "BookOfAll$Rules" "putDay" "[I" : Cond) ∈ jw := jin (jt_1 _ (List.mem_of_getElem? (i := 102) (by decide +kernel))) (by decide +kernel)
set_option maxRecDepth 100000 in
theorem m_608 : (.fieldLink RX8 27 "BookOfAll$Rules" "names" "[I" : Cond) ∈ jw := jin (jt_1 _ (List.mem_of_getElem? (i := 104) (by decide +kernel))) (by decide +kernel)
set_option maxRecDepth 100000 in
theorem m_609 : (.fieldLink RX8 30 "BookOfAll$Rules" "stack" "[I" : Cond) ∈ jw := jin (jt_1 _ (List.mem_of_getElem? (i := 105) (by decide +kernel))) (by decide +kernel)
set_option maxRecDepth 100000 in
theorem m_610 : (.code yX8_init cX8_init 1 none : Cond) ∈ jw := jin (jt_1 _ (List.mem_of_getElem? (i := 93) (by decide +kernel))) (by decide +kernel)
set_option maxRecDepth 100000 in
theorem m_611 : (.instanceMethod yX8_init : Cond) ∈ jw := jin (jt_1 _ (List.mem_of_getElem? (i := 92) (by decide +kernel))) (by decide +kernel)
set_option maxRecDepth 100000 in
theorem m_612 : (.classLink RX12 23 RX6 : Cond) ∈ jw := jin (jt_1 _ (List.mem_of_getElem? (i := 123) (by decide +kernel))) (by decide +kernel)
set_option maxRecDepth 100000 in
theorem m_613 : (.instantiable RX6 6 : Cond) ∈ jw := jin (jt_1 _ (List.mem_of_getElem? (i := 124) (by decide +kernel))) (by decide +kernel)
set_option maxRecDepth 100000 in
theorem m_614 : (.methodLink RX6 1 objectInit : Cond) ∈ jw := jin (jt_1 _ (List.mem_of_getElem? (i := 128) (by decide +kernel))) (by decide +kernel)
set_option maxRecDepth 100000 in
theorem m_615 : (.code yX6_init cX6_init 2 none : Cond) ∈ jw := jin (jt_1 _ (List.mem_of_getElem? (i := 127) (by decide +kernel))) (by decide +kernel)
set_option maxRecDepth 100000 in
theorem m_616 : (.methodLink RX12 25 yX6_init : Cond) ∈ jw := jin (jt_1 _ (List.mem_of_getElem? (i := 125) (by decide +kernel))) (by decide +kernel)
set_option maxRecDepth 100000 in
theorem m_617 : (.instanceMethod yX6_init : Cond) ∈ jw := jin (jt_1 _ (List.mem_of_getElem? (i := 126) (by decide +kernel))) (by decide +kernel)
set_option maxRecDepth 100000 in
theorem m_618 : (.classLink RX12 32 RX11 : Cond) ∈ jw := jin (jt_1 _ (List.mem_of_getElem? (i := 149) (by decide +kernel))) (by decide +kernel)
set_option maxRecDepth 100000 in
theorem m_619 : (.instantiable RX11 7 : Cond) ∈ jw := jin (jt_1 _ (List.mem_of_getElem? (i := 151) (by decide +kernel))) (by decide +kernel)
set_option maxRecDepth 100000 in
theorem m_620 : (.initialized RX11 : Cond) ∈ jw := jin (jt_1 _ (List.mem_of_getElem? (i := 5) (by decide +kernel))) (by decide +kernel)
set_option maxRecDepth 100000 in
theorem m_621 : (.methodLink RX11 3 objectInit : Cond) ∈ jw := jin (jt_1 _ (List.mem_of_getElem? (i := 155) (by decide +kernel))) (by decide +kernel)
set_option maxRecDepth 100000 in
theorem m_622 : (.fieldLink RX11 9 "BookOfAll$Volume" "setDay" "I" : Cond) ∈ jw := jin (jt_1 _ (List.mem_of_getElem? (i := 161) (by decide +kernel))) (by decide +kernel)
set_option maxRecDepth 100000 in
theorem m_623 : (.fieldLink RX11 15 "BookOfAll$Volume" "order" "[I" : Cond) ∈ jw := jin (jt_1 _ (List.mem_of_getElem? (i := 163) (by decide +kernel))) (by decide +kernel)
set_option maxRecDepth 100000 in
theorem m_624 : (.fieldLink RX11 19 "BookOfAll$Volume" "laid" "[I" : Cond) ∈ jw := jin (jt_1 _ (List.mem_of_getElem? (i := 165) (by decide +kernel))) (by decide +kernel)
set_option maxRecDepth 100000 in
theorem m_625 : (.methodLink RX11 22 Lib.Math.min.name : Cond) ∈ jw := jin (jt_1 _ (List.mem_of_getElem? (i := 156) (by decide +kernel))) (by decide +kernel)
set_option maxRecDepth 100000 in
theorem m_626 : (.fieldLink RX11 28 "BookOfAll$Volume" "lastLetter" "I" : Cond) ∈ jw := jin (jt_1 _ (List.mem_of_getElem? (i := 159) (by decide +kernel))) (by decide +kernel)
set_option maxRecDepth 100000 in
theorem m_627 : (.code yX11_init cX11_init 2 none : Cond) ∈ jw := jin (jt_1 _ (List.mem_of_getElem? (i := 154) (by decide +kernel))) (by decide +kernel)
set_option maxRecDepth 100000 in
theorem m_628 : (.methodLink RX12 38 yX11_init : Cond) ∈ jw := jin (jt_1 _ (List.mem_of_getElem? (i := 152) (by decide +kernel))) (by decide +kernel)
set_option maxRecDepth 100000 in
theorem m_629 : (.instanceMethod yX11_init : Cond) ∈ jw := jin (jt_1 _ (List.mem_of_getElem? (i := 153) (by decide +kernel))) (by decide +kernel)
set_option maxRecDepth 100000 in
theorem m_630 : (.classLink RX12 57 RX4 : Cond) ∈ jw := jin (jt_1 _ (List.mem_of_getElem? (i := 190) (by decide +kernel))) (by decide +kernel)
set_option maxRecDepth 100000 in
theorem m_631 : (.fieldLink RX12 59 "BookOfAll" "lines" "[LBookOfAll$Line;" : Cond) ∈ jw := jin (jt_2 _ (List.mem_of_getElem? (i := 97) (by decide +kernel))) (by decide +kernel)
set_option maxRecDepth 100000 in
theorem m_632 : (.classLink RX12 63 RX5 : Cond) ∈ jw := jin (jt_1 _ (List.mem_of_getElem? (i := 192) (by decide +kernel))) (by decide +kernel)
set_option maxRecDepth 100000 in
theorem m_633 : (.instantiable RX5 12 : Cond) ∈ jw := jin (jt_1 _ (List.mem_of_getElem? (i := 193) (by decide +kernel))) (by decide +kernel)
set_option maxRecDepth 100000 in
theorem m_634 : (.methodLink RX5 3 objectInit : Cond) ∈ jw := jin (jt_1 _ (List.mem_of_getElem? (i := 197) (by decide +kernel))) (by decide +kernel)
set_option maxRecDepth 100000 in
theorem m_635 : (.fieldLink RX5 27 "BookOfAll$News" "wrongLine" "[I" : Cond) ∈ jw := jin (jt_1 _ (List.mem_of_getElem? (i := 207) (by decide +kernel))) (by decide +kernel)
set_option maxRecDepth 100000 in
theorem m_636 : (.fieldLink RX5 30 "BookOfAll$News" "kept" "[I" : Cond) ∈ jw := jin (jt_1 _ (List.mem_of_getElem? (i := 208) (by decide +kernel))) (by decide +kernel)
set_option maxRecDepth 100000 in
theorem m_637 : (.fieldLink RX5 33 "BookOfAll$News" "should" "[I" : Cond) ∈ jw := jin (jt_1 _ (List.mem_of_getElem? (i := 209) (by decide +kernel))) (by decide +kernel)
set_option maxRecDepth 100000 in
theorem m_638 : (.fieldLink RX5 36 "BookOfAll$News" "erratumDay" "[I" : Cond) ∈ jw := jin (jt_1 _ (List.mem_of_getElem? (i := 210) (by decide +kernel))) (by decide +kernel)
set_option maxRecDepth 100000 in
theorem m_639 : (.fieldLink RX5 39 "BookOfAll$News" "missed" "[Z" : Cond) ∈ jw := jin (jt_1 _ (List.mem_of_getElem? (i := 211) (by decide +kernel))) (by decide +kernel)
set_option maxRecDepth 100000 in
theorem m_640 : (.methodLink RX5 43 yJ7_fill_53178 : Cond) ∈ jw := jin (jt_1 _ (List.mem_of_getElem? (i := 198) (by decide +kernel))) (by decide +kernel)
set_option maxRecDepth 100000 in
theorem m_641 : (.code yX5_init cX5_init 1 none : Cond) ∈ jw := jin (jt_1 _ (List.mem_of_getElem? (i := 196) (by decide +kernel))) (by decide +kernel)
set_option maxRecDepth 100000 in
theorem m_642 : (.methodLink RX12 65 yX5_init : Cond) ∈ jw := jin (jt_1 _ (List.mem_of_getElem? (i := 194) (by decide +kernel))) (by decide +kernel)
set_option maxRecDepth 100000 in
theorem m_643 : (.instanceMethod yX5_init : Cond) ∈ jw := jin (jt_1 _ (List.mem_of_getElem? (i := 195) (by decide +kernel))) (by decide +kernel)
set_option maxRecDepth 100000 in
theorem m_644 : (.methodLink RX12 76 yJ7_fill_53178 : Cond) ∈ jw := jin (jt_2 _ (List.mem_of_getElem? (i := 0) (by decide +kernel))) (by decide +kernel)
set_option maxRecDepth 100000 in
theorem m_645 : (.classLink RX12 82 RX3 : Cond) ∈ jw := jin (jt_2 _ (List.mem_of_getElem? (i := 1) (by decide +kernel))) (by decide +kernel)
set_option maxRecDepth 100000 in
theorem m_646 : (.instantiable RX3 7 : Cond) ∈ jw := jin (jt_2 _ (List.mem_of_getElem? (i := 2) (by decide +kernel))) (by decide +kernel)
set_option maxRecDepth 100000 in
theorem m_647 : (.methodLink RX3 3 objectInit : Cond) ∈ jw := jin (jt_2 _ (List.mem_of_getElem? (i := 6) (by decide +kernel))) (by decide +kernel)
set_option maxRecDepth 100000 in
theorem m_648 : (.fieldLink RX3 9 "BookOfAll$Lengths" "article" "[I" : Cond) ∈ jw := jin (jt_2 _ (List.mem_of_getElem? (i := 7) (by decide +kernel))) (by decide +kernel)
set_option maxRecDepth 100000 in
theorem m_649 : (.fieldLink RX3 15 "BookOfAll$Lengths" "asked" "[I" : Cond) ∈ jw := jin (jt_2 _ (List.mem_of_getElem? (i := 8) (by decide +kernel))) (by decide +kernel)
set_option maxRecDepth 100000 in
theorem m_650 : (.code yX3_init cX3_init 1 none : Cond) ∈ jw := jin (jt_2 _ (List.mem_of_getElem? (i := 5) (by decide +kernel))) (by decide +kernel)
set_option maxRecDepth 100000 in
theorem m_651 : (.instanceMethod yX3_init : Cond) ∈ jw := jin (jt_2 _ (List.mem_of_getElem? (i := 4) (by decide +kernel))) (by decide +kernel)
set_option maxRecDepth 100000 in
theorem m_652 : (.classLink RX12 89 RX1 : Cond) ∈ jw := jin (jt_2 _ (List.mem_of_getElem? (i := 30) (by decide +kernel))) (by decide +kernel)
set_option maxRecDepth 100000 in
theorem m_653 : (.instantiable RX1 10 : Cond) ∈ jw := jin (jt_2 _ (List.mem_of_getElem? (i := 31) (by decide +kernel))) (by decide +kernel)
set_option maxRecDepth 100000 in
theorem m_654 : (.methodLink RX1 5 objectInit : Cond) ∈ jw := jin (jt_2 _ (List.mem_of_getElem? (i := 35) (by decide +kernel))) (by decide +kernel)
set_option maxRecDepth 100000 in
theorem m_655 : (.fieldLink RX1 11 "BookOfAll$Giver" "article" "[I" : Cond) ∈ jw := jin (jt_2 _ (List.mem_of_getElem? (i := 36) (by decide +kernel))) (by decide +kernel)
set_option maxRecDepth 100000 in
theorem m_656 : (.fieldLink RX1 15 "BookOfAll$Giver" "lack" "[I" : Cond) ∈ jw := jin (jt_2 _ (List.mem_of_getElem? (i := 37) (by decide +kernel))) (by decide +kernel)
set_option maxRecDepth 100000 in
theorem m_657 : (.fieldLink RX1 18 "BookOfAll$Giver" "chosen" "[I" : Cond) ∈ jw := jin (jt_2 _ (List.mem_of_getElem? (i := 38) (by decide +kernel))) (by decide +kernel)
set_option maxRecDepth 100000 in
theorem m_658 : (.fieldLink RX1 21 "BookOfAll$Giver" "hand" "[I" : Cond) ∈ jw := jin (jt_2 _ (List.mem_of_getElem? (i := 40) (by decide +kernel))) (by decide +kernel)
set_option maxRecDepth 100000 in
theorem m_659 : (.fieldLink RX1 24 "BookOfAll$Giver" "room" "[I" : Cond) ∈ jw := jin (jt_2 _ (List.mem_of_getElem? (i := 41) (by decide +kernel))) (by decide +kernel)
set_option maxRecDepth 100000 in
theorem m_660 : (.fieldLink RX1 27 "BookOfAll$Giver" "takes" "[I" : Cond) ∈ jw := jin (jt_2 _ (List.mem_of_getElem? (i := 42) (by decide +kernel))) (by decide +kernel)
set_option maxRecDepth 100000 in
theorem m_661 : (.fieldLink RX1 30 "BookOfAll$Giver" "sums" "[I" : Cond) ∈ jw := jin (jt_2 _ (List.mem_of_getElem? (i := 45) (by decide +kernel))) (by decide +kernel)
set_option maxRecDepth 100000 in
theorem m_662 : (.fieldLink RX1 33 "BookOfAll$Giver" "reached" "[Z" : Cond) ∈ jw := jin (jt_2 _ (List.mem_of_getElem? (i := 46) (by decide +kernel))) (by decide +kernel)
set_option maxRecDepth 100000 in
theorem m_663 : (.code yX1_init cX1_init 1 none : Cond) ∈ jw := jin (jt_2 _ (List.mem_of_getElem? (i := 34) (by decide +kernel))) (by decide +kernel)
set_option maxRecDepth 100000 in
theorem m_664 : (.instanceMethod yX1_init : Cond) ∈ jw := jin (jt_2 _ (List.mem_of_getElem? (i := 33) (by decide +kernel))) (by decide +kernel)
set_option maxRecDepth 100000 in
theorem m_665 : (.classLink RX12 96 RX10 : Cond) ∈ jw := jin (jt_2 _ (List.mem_of_getElem? (i := 68) (by decide +kernel))) (by decide +kernel)
set_option maxRecDepth 100000 in
theorem m_666 : (.instantiable RX10 3 : Cond) ∈ jw := jin (jt_2 _ (List.mem_of_getElem? (i := 69) (by decide +kernel))) (by decide +kernel)
set_option maxRecDepth 100000 in
theorem m_667 : (.methodLink RX10 3 objectInit : Cond) ∈ jw := jin (jt_2 _ (List.mem_of_getElem? (i := 73) (by decide +kernel))) (by decide +kernel)
set_option maxRecDepth 100000 in
theorem m_668 : (.fieldLink RX10 15 "BookOfAll$Thief" "weight" "[I" : Cond) ∈ jw := jin (jt_2 _ (List.mem_of_getElem? (i := 77) (by decide +kernel))) (by decide +kernel)
set_option maxRecDepth 100000 in
theorem m_669 : (.code yX10_init cX10_init 1 none : Cond) ∈ jw := jin (jt_2 _ (List.mem_of_getElem? (i := 72) (by decide +kernel))) (by decide +kernel)
set_option maxRecDepth 100000 in
theorem m_670 : (.instanceMethod yX10_init : Cond) ∈ jw := jin (jt_2 _ (List.mem_of_getElem? (i := 71) (by decide +kernel))) (by decide +kernel)
set_option maxRecDepth 100000 in
theorem m_671 : (.methodLink RX13 1 objectInit : Cond) ∈ jw := jin (jt_7 _ (List.mem_of_getElem? (i := 54) (by decide +kernel))) (by decide +kernel)
set_option maxRecDepth 100000 in
theorem m_672 : (.methodLink RL 13 yX12_feed : Cond) ∈ jw := jin (jt_2 _ (List.mem_of_getElem? (i := 146) (by decide +kernel))) (by decide +kernel)
set_option maxRecDepth 100000 in
theorem m_673 : (.instanceMethod yX12_feed : Cond) ∈ jw := jin (jt_2 _ (List.mem_of_getElem? (i := 147) (by decide +kernel))) (by decide +kernel)
set_option maxRecDepth 100000 in
theorem m_674 : (.selects RX12 yX12_feed yX12_feed : Cond) ∈ jw := jin (jt_2 _ (List.mem_of_getElem? (i := 148) (by decide +kernel))) (by decide +kernel)
set_option maxRecDepth 100000 in
theorem m_675 : (.code yX12_feed cX12_feed 6 (some .int) : Cond) ∈ jw := jin (jt_2 _ (List.mem_of_getElem? (i := 149) (by decide +kernel))) (by decide +kernel)
set_option maxRecDepth 100000 in
theorem m_676 : (.methodLink RL 17 yX13_feed : Cond) ∈ jw := jin (jt_8 _ (List.mem_of_getElem? (i := 128) (by decide +kernel))) (by decide +kernel)
set_option maxRecDepth 100000 in
theorem m_677 : (.instanceMethod yX13_feed : Cond) ∈ jw := jin (jt_8 _ (List.mem_of_getElem? (i := 129) (by decide +kernel))) (by decide +kernel)
set_option maxRecDepth 100000 in
theorem m_678 : (.selects RX13 yX13_feed yX13_feed : Cond) ∈ jw := jin (jt_8 _ (List.mem_of_getElem? (i := 130) (by decide +kernel))) (by decide +kernel)
set_option maxRecDepth 100000 in
theorem m_679 : (.code yX13_feed cX13_feed 8 (some .int) : Cond) ∈ jw := jin (jt_8 _ (List.mem_of_getElem? (i := 131) (by decide +kernel))) (by decide +kernel)
set_option maxRecDepth 100000 in
theorem m_680 : (.methodLink RL 18 yX12_end : Cond) ∈ jw := jin (jt_2 _ (List.mem_of_getElem? (i := 154) (by decide +kernel))) (by decide +kernel)
set_option maxRecDepth 100000 in
theorem m_681 : (.instanceMethod yX12_end : Cond) ∈ jw := jin (jt_2 _ (List.mem_of_getElem? (i := 155) (by decide +kernel))) (by decide +kernel)
set_option maxRecDepth 100000 in
theorem m_682 : (.selects RX12 yX12_end yX12_end : Cond) ∈ jw := jin (jt_2 _ (List.mem_of_getElem? (i := 156) (by decide +kernel))) (by decide +kernel)
set_option maxRecDepth 100000 in
theorem m_683 : (.code yX12_end cX12_end 2 (some .boolean) : Cond) ∈ jw := jin (jt_2 _ (List.mem_of_getElem? (i := 157) (by decide +kernel))) (by decide +kernel)
set_option maxRecDepth 100000 in
theorem m_684 : (.methodLink RL 22 yX13_end : Cond) ∈ jw := jin (jt_8 _ (List.mem_of_getElem? (i := 132) (by decide +kernel))) (by decide +kernel)
set_option maxRecDepth 100000 in
theorem m_685 : (.instanceMethod yX13_end : Cond) ∈ jw := jin (jt_8 _ (List.mem_of_getElem? (i := 133) (by decide +kernel))) (by decide +kernel)
set_option maxRecDepth 100000 in
theorem m_686 : (.selects RX13 yX13_end yX13_end : Cond) ∈ jw := jin (jt_8 _ (List.mem_of_getElem? (i := 134) (by decide +kernel))) (by decide +kernel)
set_option maxRecDepth 100000 in
theorem m_687 : (.code yX13_end cX13_end 2 (some .boolean) : Cond) ∈ jw := jin (jt_8 _ (List.mem_of_getElem? (i := 135) (by decide +kernel))) (by decide +kernel)
set_option maxRecDepth 100000 in
theorem m_688 : (.methodLink RL 23 yX12_fault : Cond) ∈ jw := jin (jt_2 _ (List.mem_of_getElem? (i := 158) (by decide +kernel))) (by decide +kernel)
set_option maxRecDepth 100000 in
theorem m_689 : (.instanceMethod yX12_fault : Cond) ∈ jw := jin (jt_2 _ (List.mem_of_getElem? (i := 159) (by decide +kernel))) (by decide +kernel)
set_option maxRecDepth 100000 in
theorem m_690 : (.selects RX12 yX12_fault yX12_fault : Cond) ∈ jw := jin (jt_2 _ (List.mem_of_getElem? (i := 160) (by decide +kernel))) (by decide +kernel)
set_option maxRecDepth 100000 in
theorem m_691 : (.code yX12_fault cX12_fault 1 (some .int) : Cond) ∈ jw := jin (jt_2 _ (List.mem_of_getElem? (i := 161) (by decide +kernel))) (by decide +kernel)
set_option maxRecDepth 100000 in
theorem m_692 : (.methodLink RL 27 yX13_fault : Cond) ∈ jw := jin (jt_8 _ (List.mem_of_getElem? (i := 139) (by decide +kernel))) (by decide +kernel)
set_option maxRecDepth 100000 in
theorem m_693 : (.instanceMethod yX13_fault : Cond) ∈ jw := jin (jt_8 _ (List.mem_of_getElem? (i := 140) (by decide +kernel))) (by decide +kernel)
set_option maxRecDepth 100000 in
theorem m_694 : (.selects RX13 yX13_fault yX13_fault : Cond) ∈ jw := jin (jt_8 _ (List.mem_of_getElem? (i := 141) (by decide +kernel))) (by decide +kernel)
set_option maxRecDepth 100000 in
theorem m_695 : (.code yX13_fault cX13_fault 1 (some .int) : Cond) ∈ jw := jin (jt_8 _ (List.mem_of_getElem? (i := 142) (by decide +kernel))) (by decide +kernel)
set_option maxRecDepth 100000 in
theorem m_696 : (.methodLink RL 28 yX12_sheet : Cond) ∈ jw := jin (jt_3 _ (List.mem_of_getElem? (i := 148) (by decide +kernel))) (by decide +kernel)
set_option maxRecDepth 100000 in
theorem m_697 : (.instanceMethod yX12_sheet : Cond) ∈ jw := jin (jt_3 _ (List.mem_of_getElem? (i := 149) (by decide +kernel))) (by decide +kernel)
set_option maxRecDepth 100000 in
theorem m_698 : (.selects RX12 yX12_sheet yX12_sheet : Cond) ∈ jw := jin (jt_3 _ (List.mem_of_getElem? (i := 150) (by decide +kernel))) (by decide +kernel)
set_option maxRecDepth 100000 in
theorem m_699 : (.code yX12_sheet cX12_sheet 2 (some .int) : Cond) ∈ jw := jin (jt_3 _ (List.mem_of_getElem? (i := 151) (by decide +kernel))) (by decide +kernel)
set_option maxRecDepth 100000 in
theorem m_700 : (.methodLink RL 31 yX13_sheet : Cond) ∈ jw := jin (jt_8 _ (List.mem_of_getElem? (i := 234) (by decide +kernel))) (by decide +kernel)
set_option maxRecDepth 100000 in
theorem m_701 : (.instanceMethod yX13_sheet : Cond) ∈ jw := jin (jt_8 _ (List.mem_of_getElem? (i := 235) (by decide +kernel))) (by decide +kernel)
set_option maxRecDepth 100000 in
theorem m_702 : (.selects RX13 yX13_sheet yX13_sheet : Cond) ∈ jw := jin (jt_8 _ (List.mem_of_getElem? (i := 236) (by decide +kernel))) (by decide +kernel)
set_option maxRecDepth 100000 in
theorem m_703 : (.code yX13_sheet cX13_sheet 4 (some .int) : Cond) ∈ jw := jin (jt_8 _ (List.mem_of_getElem? (i := 237) (by decide +kernel))) (by decide +kernel)
set_option maxRecDepth 100000 in
theorem m_704 : (.methodLink RL 32 yX12_force : Cond) ∈ jw := jin (jt_3 _ (List.mem_of_getElem? (i := 213) (by decide +kernel))) (by decide +kernel)
set_option maxRecDepth 100000 in
theorem m_705 : (.instanceMethod yX12_force : Cond) ∈ jw := jin (jt_3 _ (List.mem_of_getElem? (i := 214) (by decide +kernel))) (by decide +kernel)
set_option maxRecDepth 100000 in
theorem m_706 : (.selects RX12 yX12_force yX12_force : Cond) ∈ jw := jin (jt_3 _ (List.mem_of_getElem? (i := 215) (by decide +kernel))) (by decide +kernel)
set_option maxRecDepth 100000 in
theorem m_707 : (.code yX12_force cX12_force 5 (some .int) : Cond) ∈ jw := jin (jt_3 _ (List.mem_of_getElem? (i := 216) (by decide +kernel))) (by decide +kernel)
set_option maxRecDepth 100000 in
theorem m_708 : (.methodLink RL 36 yX13_force : Cond) ∈ jw := jin (jt_8 _ (List.mem_of_getElem? (i := 238) (by decide +kernel))) (by decide +kernel)
set_option maxRecDepth 100000 in
theorem m_709 : (.instanceMethod yX13_force : Cond) ∈ jw := jin (jt_8 _ (List.mem_of_getElem? (i := 239) (by decide +kernel))) (by decide +kernel)
set_option maxRecDepth 100000 in
theorem m_710 : (.selects RX13 yX13_force yX13_force : Cond) ∈ jw := jin (jt_9 _ (List.mem_of_getElem? (i := 0) (by decide +kernel))) (by decide +kernel)
set_option maxRecDepth 100000 in
theorem m_711 : (.code yX13_force cX13_force 3 (some .int) : Cond) ∈ jw := jin (jt_9 _ (List.mem_of_getElem? (i := 1) (by decide +kernel))) (by decide +kernel)
set_option maxRecDepth 100000 in
theorem m_712 : (.methodLink RL 37 yX12_rule : Cond) ∈ jw := jin (jt_4 _ (List.mem_of_getElem? (i := 63) (by decide +kernel))) (by decide +kernel)
set_option maxRecDepth 100000 in
theorem m_713 : (.instanceMethod yX12_rule : Cond) ∈ jw := jin (jt_4 _ (List.mem_of_getElem? (i := 64) (by decide +kernel))) (by decide +kernel)
set_option maxRecDepth 100000 in
theorem m_714 : (.selects RX12 yX12_rule yX12_rule : Cond) ∈ jw := jin (jt_4 _ (List.mem_of_getElem? (i := 65) (by decide +kernel))) (by decide +kernel)
set_option maxRecDepth 100000 in
theorem m_715 : (.code yX12_rule cX12_rule 5 (some .int) : Cond) ∈ jw := jin (jt_4 _ (List.mem_of_getElem? (i := 66) (by decide +kernel))) (by decide +kernel)
set_option maxRecDepth 100000 in
theorem m_716 : (.methodLink RL 41 yX13_rule : Cond) ∈ jw := jin (jt_9 _ (List.mem_of_getElem? (i := 5) (by decide +kernel))) (by decide +kernel)
set_option maxRecDepth 100000 in
theorem m_717 : (.instanceMethod yX13_rule : Cond) ∈ jw := jin (jt_9 _ (List.mem_of_getElem? (i := 6) (by decide +kernel))) (by decide +kernel)
set_option maxRecDepth 100000 in
theorem m_718 : (.selects RX13 yX13_rule yX13_rule : Cond) ∈ jw := jin (jt_9 _ (List.mem_of_getElem? (i := 7) (by decide +kernel))) (by decide +kernel)
set_option maxRecDepth 100000 in
theorem m_719 : (.code yX13_rule cX13_rule 5 (some .int) : Cond) ∈ jw := jin (jt_9 _ (List.mem_of_getElem? (i := 8) (by decide +kernel))) (by decide +kernel)
set_option maxRecDepth 100000 in
theorem m_720 : (.methodLink RL 42 yX12_go : Cond) ∈ jw := jin (jt_4 _ (List.mem_of_getElem? (i := 71) (by decide +kernel))) (by decide +kernel)
set_option maxRecDepth 100000 in
theorem m_721 : (.instanceMethod yX12_go : Cond) ∈ jw := jin (jt_4 _ (List.mem_of_getElem? (i := 72) (by decide +kernel))) (by decide +kernel)
set_option maxRecDepth 100000 in
theorem m_722 : (.selects RX12 yX12_go yX12_go : Cond) ∈ jw := jin (jt_4 _ (List.mem_of_getElem? (i := 73) (by decide +kernel))) (by decide +kernel)
set_option maxRecDepth 100000 in
theorem m_723 : (.code yX12_go cX12_go 2 (some .int) : Cond) ∈ jw := jin (jt_4 _ (List.mem_of_getElem? (i := 74) (by decide +kernel))) (by decide +kernel)
set_option maxRecDepth 100000 in
theorem m_724 : (.methodLink RL 46 yX13_go : Cond) ∈ jw := jin (jt_9 _ (List.mem_of_getElem? (i := 13) (by decide +kernel))) (by decide +kernel)
set_option maxRecDepth 100000 in
theorem m_725 : (.instanceMethod yX13_go : Cond) ∈ jw := jin (jt_9 _ (List.mem_of_getElem? (i := 14) (by decide +kernel))) (by decide +kernel)
set_option maxRecDepth 100000 in
theorem m_726 : (.selects RX13 yX13_go yX13_go : Cond) ∈ jw := jin (jt_9 _ (List.mem_of_getElem? (i := 15) (by decide +kernel))) (by decide +kernel)
set_option maxRecDepth 100000 in
theorem m_727 : (.code yX13_go cX13_go 2 (some .int) : Cond) ∈ jw := jin (jt_9 _ (List.mem_of_getElem? (i := 16) (by decide +kernel))) (by decide +kernel)
set_option maxRecDepth 100000 in
theorem m_728 : (.methodLink RL 47 yX12_bound : Cond) ∈ jw := jin (jt_4 _ (List.mem_of_getElem? (i := 76) (by decide +kernel))) (by decide +kernel)
set_option maxRecDepth 100000 in
theorem m_729 : (.instanceMethod yX12_bound : Cond) ∈ jw := jin (jt_4 _ (List.mem_of_getElem? (i := 77) (by decide +kernel))) (by decide +kernel)
set_option maxRecDepth 100000 in
theorem m_730 : (.selects RX12 yX12_bound yX12_bound : Cond) ∈ jw := jin (jt_4 _ (List.mem_of_getElem? (i := 78) (by decide +kernel))) (by decide +kernel)
set_option maxRecDepth 100000 in
theorem m_731 : (.code yX12_bound cX12_bound 4 (some .boolean) : Cond) ∈ jw := jin (jt_4 _ (List.mem_of_getElem? (i := 79) (by decide +kernel))) (by decide +kernel)
set_option maxRecDepth 100000 in
theorem m_732 : (.methodLink RL 51 yX13_bound : Cond) ∈ jw := jin (jt_9 _ (List.mem_of_getElem? (i := 17) (by decide +kernel))) (by decide +kernel)
set_option maxRecDepth 100000 in
theorem m_733 : (.instanceMethod yX13_bound : Cond) ∈ jw := jin (jt_9 _ (List.mem_of_getElem? (i := 18) (by decide +kernel))) (by decide +kernel)
set_option maxRecDepth 100000 in
theorem m_734 : (.selects RX13 yX13_bound yX13_bound : Cond) ∈ jw := jin (jt_9 _ (List.mem_of_getElem? (i := 19) (by decide +kernel))) (by decide +kernel)
set_option maxRecDepth 100000 in
theorem m_735 : (.code yX13_bound cX13_bound 4 (some .boolean) : Cond) ∈ jw := jin (jt_9 _ (List.mem_of_getElem? (i := 20) (by decide +kernel))) (by decide +kernel)
set_option maxRecDepth 100000 in
theorem m_736 : (.methodLink RL 52 yX12_article : Cond) ∈ jw := jin (jt_4 _ (List.mem_of_getElem? (i := 80) (by decide +kernel))) (by decide +kernel)
set_option maxRecDepth 100000 in
theorem m_737 : (.instanceMethod yX12_article : Cond) ∈ jw := jin (jt_4 _ (List.mem_of_getElem? (i := 81) (by decide +kernel))) (by decide +kernel)
set_option maxRecDepth 100000 in
theorem m_738 : (.selects RX12 yX12_article yX12_article : Cond) ∈ jw := jin (jt_4 _ (List.mem_of_getElem? (i := 82) (by decide +kernel))) (by decide +kernel)
set_option maxRecDepth 100000 in
theorem m_739 : (.code yX12_article cX12_article 9 (some .int) : Cond) ∈ jw := jin (jt_4 _ (List.mem_of_getElem? (i := 83) (by decide +kernel))) (by decide +kernel)
set_option maxRecDepth 100000 in
theorem m_740 : (.methodLink RL 56 yX13_article : Cond) ∈ jw := jin (jt_9 _ (List.mem_of_getElem? (i := 21) (by decide +kernel))) (by decide +kernel)
set_option maxRecDepth 100000 in
theorem m_741 : (.instanceMethod yX13_article : Cond) ∈ jw := jin (jt_9 _ (List.mem_of_getElem? (i := 22) (by decide +kernel))) (by decide +kernel)
set_option maxRecDepth 100000 in
theorem m_742 : (.selects RX13 yX13_article yX13_article : Cond) ∈ jw := jin (jt_9 _ (List.mem_of_getElem? (i := 23) (by decide +kernel))) (by decide +kernel)
set_option maxRecDepth 100000 in
theorem m_743 : (.code yX13_article cX13_article 7 (some .int) : Cond) ∈ jw := jin (jt_9 _ (List.mem_of_getElem? (i := 24) (by decide +kernel))) (by decide +kernel)
set_option maxRecDepth 100000 in
theorem m_744 : (.methodLink RL 57 yX12_pointer : Cond) ∈ jw := jin (jt_4 _ (List.mem_of_getElem? (i := 176) (by decide +kernel))) (by decide +kernel)
set_option maxRecDepth 100000 in
theorem m_745 : (.instanceMethod yX12_pointer : Cond) ∈ jw := jin (jt_4 _ (List.mem_of_getElem? (i := 177) (by decide +kernel))) (by decide +kernel)
set_option maxRecDepth 100000 in
theorem m_746 : (.selects RX12 yX12_pointer yX12_pointer : Cond) ∈ jw := jin (jt_4 _ (List.mem_of_getElem? (i := 178) (by decide +kernel))) (by decide +kernel)
set_option maxRecDepth 100000 in
theorem m_747 : (.code yX12_pointer cX12_pointer 6 (some .int) : Cond) ∈ jw := jin (jt_4 _ (List.mem_of_getElem? (i := 179) (by decide +kernel))) (by decide +kernel)
set_option maxRecDepth 100000 in
theorem m_748 : (.methodLink RL 60 yX13_pointer : Cond) ∈ jw := jin (jt_9 _ (List.mem_of_getElem? (i := 33) (by decide +kernel))) (by decide +kernel)
set_option maxRecDepth 100000 in
theorem m_749 : (.instanceMethod yX13_pointer : Cond) ∈ jw := jin (jt_9 _ (List.mem_of_getElem? (i := 34) (by decide +kernel))) (by decide +kernel)
set_option maxRecDepth 100000 in
theorem m_750 : (.selects RX13 yX13_pointer yX13_pointer : Cond) ∈ jw := jin (jt_9 _ (List.mem_of_getElem? (i := 35) (by decide +kernel))) (by decide +kernel)
set_option maxRecDepth 100000 in
theorem m_751 : (.code yX13_pointer cX13_pointer 7 (some .int) : Cond) ∈ jw := jin (jt_9 _ (List.mem_of_getElem? (i := 36) (by decide +kernel))) (by decide +kernel)
set_option maxRecDepth 100000 in
theorem m_752 : (.methodLink RL 61 yX12_plate : Cond) ∈ jw := jin (jt_4 _ (List.mem_of_getElem? (i := 180) (by decide +kernel))) (by decide +kernel)
set_option maxRecDepth 100000 in
theorem m_753 : (.instanceMethod yX12_plate : Cond) ∈ jw := jin (jt_4 _ (List.mem_of_getElem? (i := 181) (by decide +kernel))) (by decide +kernel)
set_option maxRecDepth 100000 in
theorem m_754 : (.selects RX12 yX12_plate yX12_plate : Cond) ∈ jw := jin (jt_4 _ (List.mem_of_getElem? (i := 182) (by decide +kernel))) (by decide +kernel)
set_option maxRecDepth 100000 in
theorem m_755 : (.code yX12_plate cX12_plate 7 (some .int) : Cond) ∈ jw := jin (jt_4 _ (List.mem_of_getElem? (i := 183) (by decide +kernel))) (by decide +kernel)
set_option maxRecDepth 100000 in
theorem m_756 : (.methodLink RL 64 yX13_plate : Cond) ∈ jw := jin (jt_9 _ (List.mem_of_getElem? (i := 41) (by decide +kernel))) (by decide +kernel)
set_option maxRecDepth 100000 in
theorem m_757 : (.instanceMethod yX13_plate : Cond) ∈ jw := jin (jt_9 _ (List.mem_of_getElem? (i := 42) (by decide +kernel))) (by decide +kernel)
set_option maxRecDepth 100000 in
theorem m_758 : (.selects RX13 yX13_plate yX13_plate : Cond) ∈ jw := jin (jt_9 _ (List.mem_of_getElem? (i := 43) (by decide +kernel))) (by decide +kernel)
set_option maxRecDepth 100000 in
theorem m_759 : (.code yX13_plate cX13_plate 11 (some .int) : Cond) ∈ jw := jin (jt_9 _ (List.mem_of_getElem? (i := 44) (by decide +kernel))) (by decide +kernel)
set_option maxRecDepth 100000 in
theorem m_760 : (.methodLink RL 65 yX12_points : Cond) ∈ jw := jin (jt_4 _ (List.mem_of_getElem? (i := 188) (by decide +kernel))) (by decide +kernel)
set_option maxRecDepth 100000 in
theorem m_761 : (.instanceMethod yX12_points : Cond) ∈ jw := jin (jt_4 _ (List.mem_of_getElem? (i := 189) (by decide +kernel))) (by decide +kernel)
set_option maxRecDepth 100000 in
theorem m_762 : (.selects RX12 yX12_points yX12_points : Cond) ∈ jw := jin (jt_4 _ (List.mem_of_getElem? (i := 190) (by decide +kernel))) (by decide +kernel)
set_option maxRecDepth 100000 in
theorem m_763 : (.code yX12_points cX12_points 4 (some .boolean) : Cond) ∈ jw := jin (jt_4 _ (List.mem_of_getElem? (i := 191) (by decide +kernel))) (by decide +kernel)
set_option maxRecDepth 100000 in
theorem m_764 : (.methodLink RL 68 yX13_points : Cond) ∈ jw := jin (jt_9 _ (List.mem_of_getElem? (i := 45) (by decide +kernel))) (by decide +kernel)
set_option maxRecDepth 100000 in
theorem m_765 : (.instanceMethod yX13_points : Cond) ∈ jw := jin (jt_9 _ (List.mem_of_getElem? (i := 46) (by decide +kernel))) (by decide +kernel)
set_option maxRecDepth 100000 in
theorem m_766 : (.selects RX13 yX13_points yX13_points : Cond) ∈ jw := jin (jt_9 _ (List.mem_of_getElem? (i := 47) (by decide +kernel))) (by decide +kernel)
set_option maxRecDepth 100000 in
theorem m_767 : (.code yX13_points cX13_points 3 (some .boolean) : Cond) ∈ jw := jin (jt_9 _ (List.mem_of_getElem? (i := 48) (by decide +kernel))) (by decide +kernel)
set_option maxRecDepth 100000 in
theorem m_768 : (.methodLink RL 69 yX12_strike : Cond) ∈ jw := jin (jt_4 _ (List.mem_of_getElem? (i := 196) (by decide +kernel))) (by decide +kernel)
set_option maxRecDepth 100000 in
theorem m_769 : (.instanceMethod yX12_strike : Cond) ∈ jw := jin (jt_4 _ (List.mem_of_getElem? (i := 197) (by decide +kernel))) (by decide +kernel)
set_option maxRecDepth 100000 in
theorem m_770 : (.selects RX12 yX12_strike yX12_strike : Cond) ∈ jw := jin (jt_4 _ (List.mem_of_getElem? (i := 198) (by decide +kernel))) (by decide +kernel)
set_option maxRecDepth 100000 in
theorem m_771 : (.code yX12_strike cX12_strike 2 (some .boolean) : Cond) ∈ jw := jin (jt_4 _ (List.mem_of_getElem? (i := 199) (by decide +kernel))) (by decide +kernel)
set_option maxRecDepth 100000 in
theorem m_772 : (.methodLink RL 72 yX13_strike : Cond) ∈ jw := jin (jt_9 _ (List.mem_of_getElem? (i := 89) (by decide +kernel))) (by decide +kernel)
set_option maxRecDepth 100000 in
theorem m_773 : (.instanceMethod yX13_strike : Cond) ∈ jw := jin (jt_9 _ (List.mem_of_getElem? (i := 90) (by decide +kernel))) (by decide +kernel)
set_option maxRecDepth 100000 in
theorem m_774 : (.selects RX13 yX13_strike yX13_strike : Cond) ∈ jw := jin (jt_9 _ (List.mem_of_getElem? (i := 91) (by decide +kernel))) (by decide +kernel)
set_option maxRecDepth 100000 in
theorem m_775 : (.code yX13_strike cX13_strike 2 (some .boolean) : Cond) ∈ jw := jin (jt_9 _ (List.mem_of_getElem? (i := 92) (by decide +kernel))) (by decide +kernel)
set_option maxRecDepth 100000 in
theorem m_776 : (.methodLink RL 73 yX12_later : Cond) ∈ jw := jin (jt_4 _ (List.mem_of_getElem? (i := 208) (by decide +kernel))) (by decide +kernel)
set_option maxRecDepth 100000 in
theorem m_777 : (.instanceMethod yX12_later : Cond) ∈ jw := jin (jt_4 _ (List.mem_of_getElem? (i := 209) (by decide +kernel))) (by decide +kernel)
set_option maxRecDepth 100000 in
theorem m_778 : (.selects RX12 yX12_later yX12_later : Cond) ∈ jw := jin (jt_4 _ (List.mem_of_getElem? (i := 210) (by decide +kernel))) (by decide +kernel)
set_option maxRecDepth 100000 in
theorem m_779 : (.code yX12_later cX12_later 2 (some .boolean) : Cond) ∈ jw := jin (jt_4 _ (List.mem_of_getElem? (i := 211) (by decide +kernel))) (by decide +kernel)
set_option maxRecDepth 100000 in
theorem m_780 : (.methodLink RL 76 yX13_later : Cond) ∈ jw := jin (jt_9 _ (List.mem_of_getElem? (i := 97) (by decide +kernel))) (by decide +kernel)
set_option maxRecDepth 100000 in
theorem m_781 : (.instanceMethod yX13_later : Cond) ∈ jw := jin (jt_9 _ (List.mem_of_getElem? (i := 98) (by decide +kernel))) (by decide +kernel)
set_option maxRecDepth 100000 in
theorem m_782 : (.selects RX13 yX13_later yX13_later : Cond) ∈ jw := jin (jt_9 _ (List.mem_of_getElem? (i := 99) (by decide +kernel))) (by decide +kernel)
set_option maxRecDepth 100000 in
theorem m_783 : (.code yX13_later cX13_later 2 (some .boolean) : Cond) ∈ jw := jin (jt_9 _ (List.mem_of_getElem? (i := 100) (by decide +kernel))) (by decide +kernel)
set_option maxRecDepth 100000 in
theorem m_784 : (.methodLink RL 77 yX12_volume : Cond) ∈ jw := jin (jt_4 _ (List.mem_of_getElem? (i := 212) (by decide +kernel))) (by decide +kernel)
set_option maxRecDepth 100000 in
theorem m_785 : (.instanceMethod yX12_volume : Cond) ∈ jw := jin (jt_4 _ (List.mem_of_getElem? (i := 213) (by decide +kernel))) (by decide +kernel)
set_option maxRecDepth 100000 in
theorem m_786 : (.selects RX12 yX12_volume yX12_volume : Cond) ∈ jw := jin (jt_4 _ (List.mem_of_getElem? (i := 214) (by decide +kernel))) (by decide +kernel)
set_option maxRecDepth 100000 in
theorem m_787 : (.code yX12_volume cX12_volume 3 (some .int) : Cond) ∈ jw := jin (jt_4 _ (List.mem_of_getElem? (i := 215) (by decide +kernel))) (by decide +kernel)
set_option maxRecDepth 100000 in
theorem m_788 : (.methodLink RL 80 yX13_volume : Cond) ∈ jw := jin (jt_9 _ (List.mem_of_getElem? (i := 49) (by decide +kernel))) (by decide +kernel)
set_option maxRecDepth 100000 in
theorem m_789 : (.instanceMethod yX13_volume : Cond) ∈ jw := jin (jt_9 _ (List.mem_of_getElem? (i := 50) (by decide +kernel))) (by decide +kernel)
set_option maxRecDepth 100000 in
theorem m_790 : (.selects RX13 yX13_volume yX13_volume : Cond) ∈ jw := jin (jt_9 _ (List.mem_of_getElem? (i := 51) (by decide +kernel))) (by decide +kernel)
set_option maxRecDepth 100000 in
theorem m_791 : (.code yX13_volume cX13_volume 2 (some .int) : Cond) ∈ jw := jin (jt_9 _ (List.mem_of_getElem? (i := 52) (by decide +kernel))) (by decide +kernel)
set_option maxRecDepth 100000 in
theorem m_792 : (.methodLink RL 81 yX12_at : Cond) ∈ jw := jin (jt_4 _ (List.mem_of_getElem? (i := 220) (by decide +kernel))) (by decide +kernel)
set_option maxRecDepth 100000 in
theorem m_793 : (.instanceMethod yX12_at : Cond) ∈ jw := jin (jt_4 _ (List.mem_of_getElem? (i := 221) (by decide +kernel))) (by decide +kernel)
set_option maxRecDepth 100000 in
theorem m_794 : (.selects RX12 yX12_at yX12_at : Cond) ∈ jw := jin (jt_4 _ (List.mem_of_getElem? (i := 222) (by decide +kernel))) (by decide +kernel)
set_option maxRecDepth 100000 in
theorem m_795 : (.code yX12_at cX12_at 4 (some .int) : Cond) ∈ jw := jin (jt_4 _ (List.mem_of_getElem? (i := 223) (by decide +kernel))) (by decide +kernel)
set_option maxRecDepth 100000 in
theorem m_796 : (.methodLink RL 84 yX13_at : Cond) ∈ jw := jin (jt_9 _ (List.mem_of_getElem? (i := 101) (by decide +kernel))) (by decide +kernel)
set_option maxRecDepth 100000 in
theorem m_797 : (.instanceMethod yX13_at : Cond) ∈ jw := jin (jt_9 _ (List.mem_of_getElem? (i := 102) (by decide +kernel))) (by decide +kernel)
set_option maxRecDepth 100000 in
theorem m_798 : (.selects RX13 yX13_at yX13_at : Cond) ∈ jw := jin (jt_9 _ (List.mem_of_getElem? (i := 103) (by decide +kernel))) (by decide +kernel)
set_option maxRecDepth 100000 in
theorem m_799 : (.code yX13_at cX13_at 3 (some .int) : Cond) ∈ jw := jin (jt_9 _ (List.mem_of_getElem? (i := 104) (by decide +kernel))) (by decide +kernel)
set_option maxRecDepth 100000 in
theorem m_800 : (.methodLink RL 85 yX12_why : Cond) ∈ jw := jin (jt_5 _ (List.mem_of_getElem? (i := 6) (by decide +kernel))) (by decide +kernel)
set_option maxRecDepth 100000 in
theorem m_801 : (.instanceMethod yX12_why : Cond) ∈ jw := jin (jt_5 _ (List.mem_of_getElem? (i := 7) (by decide +kernel))) (by decide +kernel)
set_option maxRecDepth 100000 in
theorem m_802 : (.selects RX12 yX12_why yX12_why : Cond) ∈ jw := jin (jt_5 _ (List.mem_of_getElem? (i := 8) (by decide +kernel))) (by decide +kernel)
set_option maxRecDepth 100000 in
theorem m_803 : (.code yX12_why cX12_why 7 (some .int) : Cond) ∈ jw := jin (jt_5 _ (List.mem_of_getElem? (i := 9) (by decide +kernel))) (by decide +kernel)
set_option maxRecDepth 100000 in
theorem m_804 : (.methodLink RL 88 yX13_why : Cond) ∈ jw := jin (jt_9 _ (List.mem_of_getElem? (i := 117) (by decide +kernel))) (by decide +kernel)
set_option maxRecDepth 100000 in
theorem m_805 : (.instanceMethod yX13_why : Cond) ∈ jw := jin (jt_9 _ (List.mem_of_getElem? (i := 118) (by decide +kernel))) (by decide +kernel)
set_option maxRecDepth 100000 in
theorem m_806 : (.selects RX13 yX13_why yX13_why : Cond) ∈ jw := jin (jt_9 _ (List.mem_of_getElem? (i := 119) (by decide +kernel))) (by decide +kernel)
set_option maxRecDepth 100000 in
theorem m_807 : (.code yX13_why cX13_why 4 (some .int) : Cond) ∈ jw := jin (jt_9 _ (List.mem_of_getElem? (i := 120) (by decide +kernel))) (by decide +kernel)
set_option maxRecDepth 100000 in
theorem m_808 : (.methodLink RL 89 yX12_hand : Cond) ∈ jw := jin (jt_5 _ (List.mem_of_getElem? (i := 15) (by decide +kernel))) (by decide +kernel)
set_option maxRecDepth 100000 in
theorem m_809 : (.instanceMethod yX12_hand : Cond) ∈ jw := jin (jt_5 _ (List.mem_of_getElem? (i := 16) (by decide +kernel))) (by decide +kernel)
set_option maxRecDepth 100000 in
theorem m_810 : (.selects RX12 yX12_hand yX12_hand : Cond) ∈ jw := jin (jt_5 _ (List.mem_of_getElem? (i := 17) (by decide +kernel))) (by decide +kernel)
set_option maxRecDepth 100000 in
theorem m_811 : (.code yX12_hand cX12_hand 5 (some .int) : Cond) ∈ jw := jin (jt_5 _ (List.mem_of_getElem? (i := 18) (by decide +kernel))) (by decide +kernel)
set_option maxRecDepth 100000 in
theorem m_812 : (.methodLink RL 92 yX13_hand : Cond) ∈ jw := jin (jt_9 _ (List.mem_of_getElem? (i := 121) (by decide +kernel))) (by decide +kernel)
set_option maxRecDepth 100000 in
theorem m_813 : (.instanceMethod yX13_hand : Cond) ∈ jw := jin (jt_9 _ (List.mem_of_getElem? (i := 122) (by decide +kernel))) (by decide +kernel)
set_option maxRecDepth 100000 in
theorem m_814 : (.selects RX13 yX13_hand yX13_hand : Cond) ∈ jw := jin (jt_9 _ (List.mem_of_getElem? (i := 123) (by decide +kernel))) (by decide +kernel)
set_option maxRecDepth 100000 in
theorem m_815 : (.code yX13_hand cX13_hand 4 (some .int) : Cond) ∈ jw := jin (jt_9 _ (List.mem_of_getElem? (i := 124) (by decide +kernel))) (by decide +kernel)
set_option maxRecDepth 100000 in
theorem m_816 : (.methodLink RL 93 yX12_enemies : Cond) ∈ jw := jin (jt_5 _ (List.mem_of_getElem? (i := 48) (by decide +kernel))) (by decide +kernel)
set_option maxRecDepth 100000 in
theorem m_817 : (.instanceMethod yX12_enemies : Cond) ∈ jw := jin (jt_5 _ (List.mem_of_getElem? (i := 49) (by decide +kernel))) (by decide +kernel)
set_option maxRecDepth 100000 in
theorem m_818 : (.selects RX12 yX12_enemies yX12_enemies : Cond) ∈ jw := jin (jt_5 _ (List.mem_of_getElem? (i := 50) (by decide +kernel))) (by decide +kernel)
set_option maxRecDepth 100000 in
theorem m_819 : (.code yX12_enemies cX12_enemies 5 (some .boolean) : Cond) ∈ jw := jin (jt_5 _ (List.mem_of_getElem? (i := 51) (by decide +kernel))) (by decide +kernel)
set_option maxRecDepth 100000 in
theorem m_820 : (.methodLink RL 96 yX13_enemies : Cond) ∈ jw := jin (jt_9 _ (List.mem_of_getElem? (i := 126) (by decide +kernel))) (by decide +kernel)
set_option maxRecDepth 100000 in
theorem m_821 : (.instanceMethod yX13_enemies : Cond) ∈ jw := jin (jt_9 _ (List.mem_of_getElem? (i := 127) (by decide +kernel))) (by decide +kernel)
set_option maxRecDepth 100000 in
theorem m_822 : (.selects RX13 yX13_enemies yX13_enemies : Cond) ∈ jw := jin (jt_9 _ (List.mem_of_getElem? (i := 128) (by decide +kernel))) (by decide +kernel)
set_option maxRecDepth 100000 in
theorem m_823 : (.code yX13_enemies cX13_enemies 3 (some .boolean) : Cond) ∈ jw := jin (jt_9 _ (List.mem_of_getElem? (i := 129) (by decide +kernel))) (by decide +kernel)
set_option maxRecDepth 100000 in
theorem m_824 : (.methodLink RL 97 yX12_give : Cond) ∈ jw := jin (jt_5 _ (List.mem_of_getElem? (i := 56) (by decide +kernel))) (by decide +kernel)
set_option maxRecDepth 100000 in
theorem m_825 : (.instanceMethod yX12_give : Cond) ∈ jw := jin (jt_5 _ (List.mem_of_getElem? (i := 57) (by decide +kernel))) (by decide +kernel)
set_option maxRecDepth 100000 in
theorem m_826 : (.selects RX12 yX12_give yX12_give : Cond) ∈ jw := jin (jt_5 _ (List.mem_of_getElem? (i := 58) (by decide +kernel))) (by decide +kernel)
set_option maxRecDepth 100000 in
theorem m_827 : (.code yX12_give cX12_give 4 (some .boolean) : Cond) ∈ jw := jin (jt_5 _ (List.mem_of_getElem? (i := 59) (by decide +kernel))) (by decide +kernel)
set_option maxRecDepth 100000 in
theorem m_828 : (.methodLink RL 100 yX13_give : Cond) ∈ jw := jin (jt_9 _ (List.mem_of_getElem? (i := 134) (by decide +kernel))) (by decide +kernel)
set_option maxRecDepth 100000 in
theorem m_829 : (.instanceMethod yX13_give : Cond) ∈ jw := jin (jt_9 _ (List.mem_of_getElem? (i := 135) (by decide +kernel))) (by decide +kernel)
set_option maxRecDepth 100000 in
theorem m_830 : (.selects RX13 yX13_give yX13_give : Cond) ∈ jw := jin (jt_9 _ (List.mem_of_getElem? (i := 136) (by decide +kernel))) (by decide +kernel)
set_option maxRecDepth 100000 in
theorem m_831 : (.code yX13_give cX13_give 3 (some .boolean) : Cond) ∈ jw := jin (jt_9 _ (List.mem_of_getElem? (i := 137) (by decide +kernel))) (by decide +kernel)
set_option maxRecDepth 100000 in
theorem m_832 : (.methodLink RL 101 yX12_line : Cond) ∈ jw := jin (jt_5 _ (List.mem_of_getElem? (i := 107) (by decide +kernel))) (by decide +kernel)
set_option maxRecDepth 100000 in
theorem m_833 : (.instanceMethod yX12_line : Cond) ∈ jw := jin (jt_5 _ (List.mem_of_getElem? (i := 108) (by decide +kernel))) (by decide +kernel)
set_option maxRecDepth 100000 in
theorem m_834 : (.selects RX12 yX12_line yX12_line : Cond) ∈ jw := jin (jt_5 _ (List.mem_of_getElem? (i := 109) (by decide +kernel))) (by decide +kernel)
set_option maxRecDepth 100000 in
theorem m_835 : (.code yX12_line cX12_line 7 (some .int) : Cond) ∈ jw := jin (jt_5 _ (List.mem_of_getElem? (i := 110) (by decide +kernel))) (by decide +kernel)
set_option maxRecDepth 100000 in
theorem m_836 : (.methodLink RL 104 yX13_line : Cond) ∈ jw := jin (jt_9 _ (List.mem_of_getElem? (i := 166) (by decide +kernel))) (by decide +kernel)
set_option maxRecDepth 100000 in
theorem m_837 : (.instanceMethod yX13_line : Cond) ∈ jw := jin (jt_9 _ (List.mem_of_getElem? (i := 167) (by decide +kernel))) (by decide +kernel)
set_option maxRecDepth 100000 in
theorem m_838 : (.selects RX13 yX13_line yX13_line : Cond) ∈ jw := jin (jt_9 _ (List.mem_of_getElem? (i := 168) (by decide +kernel))) (by decide +kernel)
set_option maxRecDepth 100000 in
theorem m_839 : (.code yX13_line cX13_line 7 (some .int) : Cond) ∈ jw := jin (jt_9 _ (List.mem_of_getElem? (i := 169) (by decide +kernel))) (by decide +kernel)
set_option maxRecDepth 100000 in
theorem m_840 : (.methodLink RL 105 yX12_die : Cond) ∈ jw := jin (jt_5 _ (List.mem_of_getElem? (i := 173) (by decide +kernel))) (by decide +kernel)
set_option maxRecDepth 100000 in
theorem m_841 : (.instanceMethod yX12_die : Cond) ∈ jw := jin (jt_5 _ (List.mem_of_getElem? (i := 174) (by decide +kernel))) (by decide +kernel)
set_option maxRecDepth 100000 in
theorem m_842 : (.selects RX12 yX12_die yX12_die : Cond) ∈ jw := jin (jt_5 _ (List.mem_of_getElem? (i := 175) (by decide +kernel))) (by decide +kernel)
set_option maxRecDepth 100000 in
theorem m_843 : (.code yX12_die cX12_die 3 (some .int) : Cond) ∈ jw := jin (jt_5 _ (List.mem_of_getElem? (i := 176) (by decide +kernel))) (by decide +kernel)
set_option maxRecDepth 100000 in
theorem m_844 : (.methodLink RL 108 yX13_die : Cond) ∈ jw := jin (jt_9 _ (List.mem_of_getElem? (i := 178) (by decide +kernel))) (by decide +kernel)
set_option maxRecDepth 100000 in
theorem m_845 : (.instanceMethod yX13_die : Cond) ∈ jw := jin (jt_9 _ (List.mem_of_getElem? (i := 179) (by decide +kernel))) (by decide +kernel)
set_option maxRecDepth 100000 in
theorem m_846 : (.selects RX13 yX13_die yX13_die : Cond) ∈ jw := jin (jt_9 _ (List.mem_of_getElem? (i := 180) (by decide +kernel))) (by decide +kernel)
set_option maxRecDepth 100000 in
theorem m_847 : (.code yX13_die cX13_die 4 (some .int) : Cond) ∈ jw := jin (jt_9 _ (List.mem_of_getElem? (i := 181) (by decide +kernel))) (by decide +kernel)
set_option maxRecDepth 100000 in
theorem m_848 : (.methodLink RL 109 yX12_takers : Cond) ∈ jw := jin (jt_5 _ (List.mem_of_getElem? (i := 177) (by decide +kernel))) (by decide +kernel)
set_option maxRecDepth 100000 in
theorem m_849 : (.instanceMethod yX12_takers : Cond) ∈ jw := jin (jt_5 _ (List.mem_of_getElem? (i := 178) (by decide +kernel))) (by decide +kernel)
set_option maxRecDepth 100000 in
theorem m_850 : (.selects RX12 yX12_takers yX12_takers : Cond) ∈ jw := jin (jt_5 _ (List.mem_of_getElem? (i := 179) (by decide +kernel))) (by decide +kernel)
set_option maxRecDepth 100000 in
theorem m_851 : (.code yX12_takers cX12_takers 5 (some .int) : Cond) ∈ jw := jin (jt_5 _ (List.mem_of_getElem? (i := 180) (by decide +kernel))) (by decide +kernel)
set_option maxRecDepth 100000 in
theorem m_852 : (.methodLink RL 112 yX13_takers : Cond) ∈ jw := jin (jt_9 _ (List.mem_of_getElem? (i := 186) (by decide +kernel))) (by decide +kernel)
set_option maxRecDepth 100000 in
theorem m_853 : (.instanceMethod yX13_takers : Cond) ∈ jw := jin (jt_9 _ (List.mem_of_getElem? (i := 187) (by decide +kernel))) (by decide +kernel)
set_option maxRecDepth 100000 in
theorem m_854 : (.selects RX13 yX13_takers yX13_takers : Cond) ∈ jw := jin (jt_9 _ (List.mem_of_getElem? (i := 188) (by decide +kernel))) (by decide +kernel)
set_option maxRecDepth 100000 in
theorem m_855 : (.code yX13_takers cX13_takers 4 (some .int) : Cond) ∈ jw := jin (jt_9 _ (List.mem_of_getElem? (i := 189) (by decide +kernel))) (by decide +kernel)
set_option maxRecDepth 100000 in
theorem m_856 : (.methodLink RL 113 yX12_tell : Cond) ∈ jw := jin (jt_5 _ (List.mem_of_getElem? (i := 185) (by decide +kernel))) (by decide +kernel)
set_option maxRecDepth 100000 in
theorem m_857 : (.instanceMethod yX12_tell : Cond) ∈ jw := jin (jt_5 _ (List.mem_of_getElem? (i := 186) (by decide +kernel))) (by decide +kernel)
set_option maxRecDepth 100000 in
theorem m_858 : (.selects RX12 yX12_tell yX12_tell : Cond) ∈ jw := jin (jt_5 _ (List.mem_of_getElem? (i := 187) (by decide +kernel))) (by decide +kernel)
set_option maxRecDepth 100000 in
theorem m_859 : (.code yX12_tell cX12_tell 5 (some .boolean) : Cond) ∈ jw := jin (jt_5 _ (List.mem_of_getElem? (i := 188) (by decide +kernel))) (by decide +kernel)
set_option maxRecDepth 100000 in
theorem m_860 : (.methodLink RL 117 yX13_tell : Cond) ∈ jw := jin (jt_9 _ (List.mem_of_getElem? (i := 190) (by decide +kernel))) (by decide +kernel)
set_option maxRecDepth 100000 in
theorem m_861 : (.instanceMethod yX13_tell : Cond) ∈ jw := jin (jt_9 _ (List.mem_of_getElem? (i := 191) (by decide +kernel))) (by decide +kernel)
set_option maxRecDepth 100000 in
theorem m_862 : (.selects RX13 yX13_tell yX13_tell : Cond) ∈ jw := jin (jt_9 _ (List.mem_of_getElem? (i := 192) (by decide +kernel))) (by decide +kernel)
set_option maxRecDepth 100000 in
theorem m_863 : (.code yX13_tell cX13_tell 4 (some .boolean) : Cond) ∈ jw := jin (jt_9 _ (List.mem_of_getElem? (i := 193) (by decide +kernel))) (by decide +kernel)
set_option maxRecDepth 100000 in
theorem m_864 : (.methodLink RL 118 yX12_known : Cond) ∈ jw := jin (jt_5 _ (List.mem_of_getElem? (i := 193) (by decide +kernel))) (by decide +kernel)
set_option maxRecDepth 100000 in
theorem m_865 : (.instanceMethod yX12_known : Cond) ∈ jw := jin (jt_5 _ (List.mem_of_getElem? (i := 194) (by decide +kernel))) (by decide +kernel)
set_option maxRecDepth 100000 in
theorem m_866 : (.selects RX12 yX12_known yX12_known : Cond) ∈ jw := jin (jt_5 _ (List.mem_of_getElem? (i := 195) (by decide +kernel))) (by decide +kernel)
set_option maxRecDepth 100000 in
theorem m_867 : (.code yX12_known cX12_known 4 (some .int) : Cond) ∈ jw := jin (jt_5 _ (List.mem_of_getElem? (i := 196) (by decide +kernel))) (by decide +kernel)
set_option maxRecDepth 100000 in
theorem m_868 : (.methodLink RL 121 yX13_known : Cond) ∈ jw := jin (jt_9 _ (List.mem_of_getElem? (i := 194) (by decide +kernel))) (by decide +kernel)
set_option maxRecDepth 100000 in
theorem m_869 : (.instanceMethod yX13_known : Cond) ∈ jw := jin (jt_9 _ (List.mem_of_getElem? (i := 195) (by decide +kernel))) (by decide +kernel)
set_option maxRecDepth 100000 in
theorem m_870 : (.selects RX13 yX13_known yX13_known : Cond) ∈ jw := jin (jt_9 _ (List.mem_of_getElem? (i := 196) (by decide +kernel))) (by decide +kernel)
set_option maxRecDepth 100000 in
theorem m_871 : (.code yX13_known cX13_known 5 (some .int) : Cond) ∈ jw := jin (jt_9 _ (List.mem_of_getElem? (i := 197) (by decide +kernel))) (by decide +kernel)
set_option maxRecDepth 100000 in
theorem m_872 : (.methodLink RL 122 yX12_stale : Cond) ∈ jw := jin (jt_5 _ (List.mem_of_getElem? (i := 201) (by decide +kernel))) (by decide +kernel)
set_option maxRecDepth 100000 in
theorem m_873 : (.instanceMethod yX12_stale : Cond) ∈ jw := jin (jt_5 _ (List.mem_of_getElem? (i := 202) (by decide +kernel))) (by decide +kernel)
set_option maxRecDepth 100000 in
theorem m_874 : (.selects RX12 yX12_stale yX12_stale : Cond) ∈ jw := jin (jt_5 _ (List.mem_of_getElem? (i := 203) (by decide +kernel))) (by decide +kernel)
set_option maxRecDepth 100000 in
theorem m_875 : (.code yX12_stale cX12_stale 4 (some .boolean) : Cond) ∈ jw := jin (jt_5 _ (List.mem_of_getElem? (i := 204) (by decide +kernel))) (by decide +kernel)
set_option maxRecDepth 100000 in
theorem m_876 : (.methodLink RL 125 yX13_stale : Cond) ∈ jw := jin (jt_9 _ (List.mem_of_getElem? (i := 198) (by decide +kernel))) (by decide +kernel)
set_option maxRecDepth 100000 in
theorem m_877 : (.instanceMethod yX13_stale : Cond) ∈ jw := jin (jt_9 _ (List.mem_of_getElem? (i := 199) (by decide +kernel))) (by decide +kernel)
set_option maxRecDepth 100000 in
theorem m_878 : (.selects RX13 yX13_stale yX13_stale : Cond) ∈ jw := jin (jt_9 _ (List.mem_of_getElem? (i := 200) (by decide +kernel))) (by decide +kernel)
set_option maxRecDepth 100000 in
theorem m_879 : (.code yX13_stale cX13_stale 3 (some .boolean) : Cond) ∈ jw := jin (jt_9 _ (List.mem_of_getElem? (i := 201) (by decide +kernel))) (by decide +kernel)
set_option maxRecDepth 100000 in
theorem m_880 : (.methodLink RL 126 yX12_stales : Cond) ∈ jw := jin (jt_5 _ (List.mem_of_getElem? (i := 213) (by decide +kernel))) (by decide +kernel)
set_option maxRecDepth 100000 in
theorem m_881 : (.instanceMethod yX12_stales : Cond) ∈ jw := jin (jt_5 _ (List.mem_of_getElem? (i := 214) (by decide +kernel))) (by decide +kernel)
set_option maxRecDepth 100000 in
theorem m_882 : (.selects RX12 yX12_stales yX12_stales : Cond) ∈ jw := jin (jt_5 _ (List.mem_of_getElem? (i := 215) (by decide +kernel))) (by decide +kernel)
set_option maxRecDepth 100000 in
theorem m_883 : (.code yX12_stales cX12_stales 5 (some .int) : Cond) ∈ jw := jin (jt_5 _ (List.mem_of_getElem? (i := 216) (by decide +kernel))) (by decide +kernel)
set_option maxRecDepth 100000 in
theorem m_884 : (.methodLink RL 129 yX13_stales : Cond) ∈ jw := jin (jt_9 _ (List.mem_of_getElem? (i := 214) (by decide +kernel))) (by decide +kernel)
set_option maxRecDepth 100000 in
theorem m_885 : (.instanceMethod yX13_stales : Cond) ∈ jw := jin (jt_9 _ (List.mem_of_getElem? (i := 215) (by decide +kernel))) (by decide +kernel)
set_option maxRecDepth 100000 in
theorem m_886 : (.selects RX13 yX13_stales yX13_stales : Cond) ∈ jw := jin (jt_9 _ (List.mem_of_getElem? (i := 216) (by decide +kernel))) (by decide +kernel)
set_option maxRecDepth 100000 in
theorem m_887 : (.code yX13_stales cX13_stales 4 (some .int) : Cond) ∈ jw := jin (jt_9 _ (List.mem_of_getElem? (i := 217) (by decide +kernel))) (by decide +kernel)
set_option maxRecDepth 100000 in
theorem m_888 : (.methodLink RL 130 yX12_mend : Cond) ∈ jw := jin (jt_5 _ (List.mem_of_getElem? (i := 217) (by decide +kernel))) (by decide +kernel)
set_option maxRecDepth 100000 in
theorem m_889 : (.instanceMethod yX12_mend : Cond) ∈ jw := jin (jt_5 _ (List.mem_of_getElem? (i := 218) (by decide +kernel))) (by decide +kernel)
set_option maxRecDepth 100000 in
theorem m_890 : (.selects RX12 yX12_mend yX12_mend : Cond) ∈ jw := jin (jt_5 _ (List.mem_of_getElem? (i := 219) (by decide +kernel))) (by decide +kernel)
set_option maxRecDepth 100000 in
theorem m_891 : (.code yX12_mend cX12_mend 3 (some .int) : Cond) ∈ jw := jin (jt_5 _ (List.mem_of_getElem? (i := 220) (by decide +kernel))) (by decide +kernel)
set_option maxRecDepth 100000 in
theorem m_892 : (.methodLink RL 133 yX13_mend : Cond) ∈ jw := jin (jt_9 _ (List.mem_of_getElem? (i := 218) (by decide +kernel))) (by decide +kernel)
set_option maxRecDepth 100000 in
theorem m_893 : (.instanceMethod yX13_mend : Cond) ∈ jw := jin (jt_9 _ (List.mem_of_getElem? (i := 219) (by decide +kernel))) (by decide +kernel)
set_option maxRecDepth 100000 in
theorem m_894 : (.selects RX13 yX13_mend yX13_mend : Cond) ∈ jw := jin (jt_9 _ (List.mem_of_getElem? (i := 220) (by decide +kernel))) (by decide +kernel)
set_option maxRecDepth 100000 in
theorem m_895 : (.code yX13_mend cX13_mend 2 (some .int) : Cond) ∈ jw := jin (jt_9 _ (List.mem_of_getElem? (i := 221) (by decide +kernel))) (by decide +kernel)
set_option maxRecDepth 100000 in
theorem m_896 : (.methodLink RL 134 yX12_erratum : Cond) ∈ jw := jin (jt_5 _ (List.mem_of_getElem? (i := 225) (by decide +kernel))) (by decide +kernel)
set_option maxRecDepth 100000 in
theorem m_897 : (.instanceMethod yX12_erratum : Cond) ∈ jw := jin (jt_5 _ (List.mem_of_getElem? (i := 226) (by decide +kernel))) (by decide +kernel)
set_option maxRecDepth 100000 in
theorem m_898 : (.selects RX12 yX12_erratum yX12_erratum : Cond) ∈ jw := jin (jt_5 _ (List.mem_of_getElem? (i := 227) (by decide +kernel))) (by decide +kernel)
set_option maxRecDepth 100000 in
theorem m_899 : (.code yX12_erratum cX12_erratum 6 (some .int) : Cond) ∈ jw := jin (jt_5 _ (List.mem_of_getElem? (i := 228) (by decide +kernel))) (by decide +kernel)
set_option maxRecDepth 100000 in
theorem m_900 : (.methodLink RL 137 yX13_erratum : Cond) ∈ jw := jin (jt_9 _ (List.mem_of_getElem? (i := 226) (by decide +kernel))) (by decide +kernel)
set_option maxRecDepth 100000 in
theorem m_901 : (.instanceMethod yX13_erratum : Cond) ∈ jw := jin (jt_9 _ (List.mem_of_getElem? (i := 227) (by decide +kernel))) (by decide +kernel)
set_option maxRecDepth 100000 in
theorem m_902 : (.selects RX13 yX13_erratum yX13_erratum : Cond) ∈ jw := jin (jt_9 _ (List.mem_of_getElem? (i := 228) (by decide +kernel))) (by decide +kernel)
set_option maxRecDepth 100000 in
theorem m_903 : (.code yX13_erratum cX13_erratum 4 (some .int) : Cond) ∈ jw := jin (jt_9 _ (List.mem_of_getElem? (i := 229) (by decide +kernel))) (by decide +kernel)
set_option maxRecDepth 100000 in
theorem m_904 : (.methodLink RL 138 yX12_misses : Cond) ∈ jw := jin (jt_5 _ (List.mem_of_getElem? (i := 233) (by decide +kernel))) (by decide +kernel)
set_option maxRecDepth 100000 in
theorem m_905 : (.instanceMethod yX12_misses : Cond) ∈ jw := jin (jt_5 _ (List.mem_of_getElem? (i := 234) (by decide +kernel))) (by decide +kernel)
set_option maxRecDepth 100000 in
theorem m_906 : (.selects RX12 yX12_misses yX12_misses : Cond) ∈ jw := jin (jt_5 _ (List.mem_of_getElem? (i := 235) (by decide +kernel))) (by decide +kernel)
set_option maxRecDepth 100000 in
theorem m_907 : (.code yX12_misses cX12_misses 2 (some .int) : Cond) ∈ jw := jin (jt_5 _ (List.mem_of_getElem? (i := 236) (by decide +kernel))) (by decide +kernel)
set_option maxRecDepth 100000 in
theorem m_908 : (.methodLink RL 141 yX13_misses : Cond) ∈ jw := jin (jt_9 _ (List.mem_of_getElem? (i := 230) (by decide +kernel))) (by decide +kernel)
set_option maxRecDepth 100000 in
theorem m_909 : (.instanceMethod yX13_misses : Cond) ∈ jw := jin (jt_9 _ (List.mem_of_getElem? (i := 231) (by decide +kernel))) (by decide +kernel)
set_option maxRecDepth 100000 in
theorem m_910 : (.selects RX13 yX13_misses yX13_misses : Cond) ∈ jw := jin (jt_9 _ (List.mem_of_getElem? (i := 232) (by decide +kernel))) (by decide +kernel)
set_option maxRecDepth 100000 in
theorem m_911 : (.code yX13_misses cX13_misses 2 (some .int) : Cond) ∈ jw := jin (jt_9 _ (List.mem_of_getElem? (i := 233) (by decide +kernel))) (by decide +kernel)
set_option maxRecDepth 100000 in
theorem m_912 : (.methodLink RL 142 yX12_told : Cond) ∈ jw := jin (jt_6 _ (List.mem_of_getElem? (i := 1) (by decide +kernel))) (by decide +kernel)
set_option maxRecDepth 100000 in
theorem m_913 : (.instanceMethod yX12_told : Cond) ∈ jw := jin (jt_6 _ (List.mem_of_getElem? (i := 2) (by decide +kernel))) (by decide +kernel)
set_option maxRecDepth 100000 in
theorem m_914 : (.selects RX12 yX12_told yX12_told : Cond) ∈ jw := jin (jt_6 _ (List.mem_of_getElem? (i := 3) (by decide +kernel))) (by decide +kernel)
set_option maxRecDepth 100000 in
theorem m_915 : (.code yX12_told cX12_told 4 (some .int) : Cond) ∈ jw := jin (jt_6 _ (List.mem_of_getElem? (i := 4) (by decide +kernel))) (by decide +kernel)
set_option maxRecDepth 100000 in
theorem m_916 : (.methodLink RL 145 yX13_told : Cond) ∈ jw := jin (jt_9 _ (List.mem_of_getElem? (i := 234) (by decide +kernel))) (by decide +kernel)
set_option maxRecDepth 100000 in
theorem m_917 : (.instanceMethod yX13_told : Cond) ∈ jw := jin (jt_9 _ (List.mem_of_getElem? (i := 235) (by decide +kernel))) (by decide +kernel)
set_option maxRecDepth 100000 in
theorem m_918 : (.selects RX13 yX13_told yX13_told : Cond) ∈ jw := jin (jt_9 _ (List.mem_of_getElem? (i := 236) (by decide +kernel))) (by decide +kernel)
set_option maxRecDepth 100000 in
theorem m_919 : (.code yX13_told cX13_told 3 (some .int) : Cond) ∈ jw := jin (jt_9 _ (List.mem_of_getElem? (i := 237) (by decide +kernel))) (by decide +kernel)
set_option maxRecDepth 100000 in
theorem m_920 : (.methodLink RL 146 yX12_set : Cond) ∈ jw := jin (jt_6 _ (List.mem_of_getElem? (i := 9) (by decide +kernel))) (by decide +kernel)
set_option maxRecDepth 100000 in
theorem m_921 : (.instanceMethod yX12_set : Cond) ∈ jw := jin (jt_6 _ (List.mem_of_getElem? (i := 10) (by decide +kernel))) (by decide +kernel)
set_option maxRecDepth 100000 in
theorem m_922 : (.selects RX12 yX12_set yX12_set : Cond) ∈ jw := jin (jt_6 _ (List.mem_of_getElem? (i := 11) (by decide +kernel))) (by decide +kernel)
set_option maxRecDepth 100000 in
theorem m_923 : (.code yX12_set cX12_set 3 (some .int) : Cond) ∈ jw := jin (jt_6 _ (List.mem_of_getElem? (i := 12) (by decide +kernel))) (by decide +kernel)
set_option maxRecDepth 100000 in
theorem m_924 : (.methodLink RL 149 yX13_set : Cond) ∈ jw := jin (jt_9 _ (List.mem_of_getElem? (i := 238) (by decide +kernel))) (by decide +kernel)
set_option maxRecDepth 100000 in
theorem m_925 : (.instanceMethod yX13_set : Cond) ∈ jw := jin (jt_9 _ (List.mem_of_getElem? (i := 239) (by decide +kernel))) (by decide +kernel)
set_option maxRecDepth 100000 in
theorem m_926 : (.selects RX13 yX13_set yX13_set : Cond) ∈ jw := jin (jt_10 _ (List.mem_of_getElem? (i := 0) (by decide +kernel))) (by decide +kernel)
set_option maxRecDepth 100000 in
theorem m_927 : (.code yX13_set cX13_set 8 (some .int) : Cond) ∈ jw := jin (jt_10 _ (List.mem_of_getElem? (i := 1) (by decide +kernel))) (by decide +kernel)
set_option maxRecDepth 100000 in
theorem m_928 : (.methodLink RL 150 yX12_page : Cond) ∈ jw := jin (jt_6 _ (List.mem_of_getElem? (i := 42) (by decide +kernel))) (by decide +kernel)
set_option maxRecDepth 100000 in
theorem m_929 : (.instanceMethod yX12_page : Cond) ∈ jw := jin (jt_6 _ (List.mem_of_getElem? (i := 43) (by decide +kernel))) (by decide +kernel)
set_option maxRecDepth 100000 in
theorem m_930 : (.selects RX12 yX12_page yX12_page : Cond) ∈ jw := jin (jt_6 _ (List.mem_of_getElem? (i := 44) (by decide +kernel))) (by decide +kernel)
set_option maxRecDepth 100000 in
theorem m_931 : (.code yX12_page cX12_page 3 (some .int) : Cond) ∈ jw := jin (jt_6 _ (List.mem_of_getElem? (i := 45) (by decide +kernel))) (by decide +kernel)
set_option maxRecDepth 100000 in
theorem m_932 : (.methodLink RL 153 yX13_page : Cond) ∈ jw := jin (jt_10 _ (List.mem_of_getElem? (i := 6) (by decide +kernel))) (by decide +kernel)
set_option maxRecDepth 100000 in
theorem m_933 : (.instanceMethod yX13_page : Cond) ∈ jw := jin (jt_10 _ (List.mem_of_getElem? (i := 7) (by decide +kernel))) (by decide +kernel)
set_option maxRecDepth 100000 in
theorem m_934 : (.selects RX13 yX13_page yX13_page : Cond) ∈ jw := jin (jt_10 _ (List.mem_of_getElem? (i := 8) (by decide +kernel))) (by decide +kernel)
set_option maxRecDepth 100000 in
theorem m_935 : (.code yX13_page cX13_page 2 (some .int) : Cond) ∈ jw := jin (jt_10 _ (List.mem_of_getElem? (i := 9) (by decide +kernel))) (by decide +kernel)
set_option maxRecDepth 100000 in
theorem m_936 : (.methodLink RL 154 yX12_promise : Cond) ∈ jw := jin (jt_6 _ (List.mem_of_getElem? (i := 46) (by decide +kernel))) (by decide +kernel)
set_option maxRecDepth 100000 in
theorem m_937 : (.instanceMethod yX12_promise : Cond) ∈ jw := jin (jt_6 _ (List.mem_of_getElem? (i := 47) (by decide +kernel))) (by decide +kernel)
set_option maxRecDepth 100000 in
theorem m_938 : (.selects RX12 yX12_promise yX12_promise : Cond) ∈ jw := jin (jt_6 _ (List.mem_of_getElem? (i := 48) (by decide +kernel))) (by decide +kernel)
set_option maxRecDepth 100000 in
theorem m_939 : (.code yX12_promise cX12_promise 4 (some .int) : Cond) ∈ jw := jin (jt_6 _ (List.mem_of_getElem? (i := 49) (by decide +kernel))) (by decide +kernel)
set_option maxRecDepth 100000 in
theorem m_940 : (.methodLink RL 157 yX13_promise : Cond) ∈ jw := jin (jt_10 _ (List.mem_of_getElem? (i := 18) (by decide +kernel))) (by decide +kernel)
set_option maxRecDepth 100000 in
theorem m_941 : (.instanceMethod yX13_promise : Cond) ∈ jw := jin (jt_10 _ (List.mem_of_getElem? (i := 19) (by decide +kernel))) (by decide +kernel)
set_option maxRecDepth 100000 in
theorem m_942 : (.selects RX13 yX13_promise yX13_promise : Cond) ∈ jw := jin (jt_10 _ (List.mem_of_getElem? (i := 20) (by decide +kernel))) (by decide +kernel)
set_option maxRecDepth 100000 in
theorem m_943 : (.code yX13_promise cX13_promise 4 (some .int) : Cond) ∈ jw := jin (jt_10 _ (List.mem_of_getElem? (i := 21) (by decide +kernel))) (by decide +kernel)
set_option maxRecDepth 100000 in
theorem m_944 : (.methodLink RL 158 yX12_ends : Cond) ∈ jw := jin (jt_6 _ (List.mem_of_getElem? (i := 62) (by decide +kernel))) (by decide +kernel)
set_option maxRecDepth 100000 in
theorem m_945 : (.instanceMethod yX12_ends : Cond) ∈ jw := jin (jt_6 _ (List.mem_of_getElem? (i := 63) (by decide +kernel))) (by decide +kernel)
set_option maxRecDepth 100000 in
theorem m_946 : (.selects RX12 yX12_ends yX12_ends : Cond) ∈ jw := jin (jt_6 _ (List.mem_of_getElem? (i := 64) (by decide +kernel))) (by decide +kernel)
set_option maxRecDepth 100000 in
theorem m_947 : (.code yX12_ends cX12_ends 4 (some .int) : Cond) ∈ jw := jin (jt_6 _ (List.mem_of_getElem? (i := 65) (by decide +kernel))) (by decide +kernel)
set_option maxRecDepth 100000 in
theorem m_948 : (.methodLink RL 161 yX13_ends : Cond) ∈ jw := jin (jt_10 _ (List.mem_of_getElem? (i := 10) (by decide +kernel))) (by decide +kernel)
set_option maxRecDepth 100000 in
theorem m_949 : (.instanceMethod yX13_ends : Cond) ∈ jw := jin (jt_10 _ (List.mem_of_getElem? (i := 11) (by decide +kernel))) (by decide +kernel)
set_option maxRecDepth 100000 in
theorem m_950 : (.selects RX13 yX13_ends yX13_ends : Cond) ∈ jw := jin (jt_10 _ (List.mem_of_getElem? (i := 12) (by decide +kernel))) (by decide +kernel)
set_option maxRecDepth 100000 in
theorem m_951 : (.code yX13_ends cX13_ends 2 (some .int) : Cond) ∈ jw := jin (jt_10 _ (List.mem_of_getElem? (i := 13) (by decide +kernel))) (by decide +kernel)
set_option maxRecDepth 100000 in
theorem m_952 : (.methodLink RL 162 yX12_promised : Cond) ∈ jw := jin (jt_6 _ (List.mem_of_getElem? (i := 66) (by decide +kernel))) (by decide +kernel)
set_option maxRecDepth 100000 in
theorem m_953 : (.instanceMethod yX12_promised : Cond) ∈ jw := jin (jt_6 _ (List.mem_of_getElem? (i := 67) (by decide +kernel))) (by decide +kernel)
set_option maxRecDepth 100000 in
theorem m_954 : (.selects RX12 yX12_promised yX12_promised : Cond) ∈ jw := jin (jt_6 _ (List.mem_of_getElem? (i := 68) (by decide +kernel))) (by decide +kernel)
set_option maxRecDepth 100000 in
theorem m_955 : (.code yX12_promised cX12_promised 6 (some .int) : Cond) ∈ jw := jin (jt_6 _ (List.mem_of_getElem? (i := 69) (by decide +kernel))) (by decide +kernel)
set_option maxRecDepth 100000 in
theorem m_956 : (.methodLink RL 165 yX13_promised : Cond) ∈ jw := jin (jt_10 _ (List.mem_of_getElem? (i := 26) (by decide +kernel))) (by decide +kernel)
set_option maxRecDepth 100000 in
theorem m_957 : (.instanceMethod yX13_promised : Cond) ∈ jw := jin (jt_10 _ (List.mem_of_getElem? (i := 27) (by decide +kernel))) (by decide +kernel)
set_option maxRecDepth 100000 in
theorem m_958 : (.selects RX13 yX13_promised yX13_promised : Cond) ∈ jw := jin (jt_10 _ (List.mem_of_getElem? (i := 28) (by decide +kernel))) (by decide +kernel)
set_option maxRecDepth 100000 in
theorem m_959 : (.code yX13_promised cX13_promised 5 (some .int) : Cond) ∈ jw := jin (jt_10 _ (List.mem_of_getElem? (i := 29) (by decide +kernel))) (by decide +kernel)
set_option maxRecDepth 100000 in
theorem m_960 : (.methodLink RL 166 yX12_subscribe : Cond) ∈ jw := jin (jt_6 _ (List.mem_of_getElem? (i := 70) (by decide +kernel))) (by decide +kernel)
set_option maxRecDepth 100000 in
theorem m_961 : (.instanceMethod yX12_subscribe : Cond) ∈ jw := jin (jt_6 _ (List.mem_of_getElem? (i := 71) (by decide +kernel))) (by decide +kernel)
set_option maxRecDepth 100000 in
theorem m_962 : (.selects RX12 yX12_subscribe yX12_subscribe : Cond) ∈ jw := jin (jt_6 _ (List.mem_of_getElem? (i := 72) (by decide +kernel))) (by decide +kernel)
set_option maxRecDepth 100000 in
theorem m_963 : (.code yX12_subscribe cX12_subscribe 4 (some .boolean) : Cond) ∈ jw := jin (jt_6 _ (List.mem_of_getElem? (i := 73) (by decide +kernel))) (by decide +kernel)
set_option maxRecDepth 100000 in
theorem m_964 : (.methodLink RL 169 yX13_subscribe : Cond) ∈ jw := jin (jt_10 _ (List.mem_of_getElem? (i := 30) (by decide +kernel))) (by decide +kernel)
set_option maxRecDepth 100000 in
theorem m_965 : (.instanceMethod yX13_subscribe : Cond) ∈ jw := jin (jt_10 _ (List.mem_of_getElem? (i := 31) (by decide +kernel))) (by decide +kernel)
set_option maxRecDepth 100000 in
theorem m_966 : (.selects RX13 yX13_subscribe yX13_subscribe : Cond) ∈ jw := jin (jt_10 _ (List.mem_of_getElem? (i := 32) (by decide +kernel))) (by decide +kernel)
set_option maxRecDepth 100000 in
theorem m_967 : (.code yX13_subscribe cX13_subscribe 4 (some .boolean) : Cond) ∈ jw := jin (jt_10 _ (List.mem_of_getElem? (i := 33) (by decide +kernel))) (by decide +kernel)
set_option maxRecDepth 100000 in
theorem m_968 : (.methodLink RL 170 yX12_owed : Cond) ∈ jw := jin (jt_6 _ (List.mem_of_getElem? (i := 78) (by decide +kernel))) (by decide +kernel)
set_option maxRecDepth 100000 in
theorem m_969 : (.instanceMethod yX12_owed : Cond) ∈ jw := jin (jt_6 _ (List.mem_of_getElem? (i := 79) (by decide +kernel))) (by decide +kernel)
set_option maxRecDepth 100000 in
theorem m_970 : (.selects RX12 yX12_owed yX12_owed : Cond) ∈ jw := jin (jt_6 _ (List.mem_of_getElem? (i := 80) (by decide +kernel))) (by decide +kernel)
set_option maxRecDepth 100000 in
theorem m_971 : (.code yX12_owed cX12_owed 5 (some .int) : Cond) ∈ jw := jin (jt_6 _ (List.mem_of_getElem? (i := 81) (by decide +kernel))) (by decide +kernel)
set_option maxRecDepth 100000 in
theorem m_972 : (.methodLink RL 173 yX13_owed : Cond) ∈ jw := jin (jt_10 _ (List.mem_of_getElem? (i := 34) (by decide +kernel))) (by decide +kernel)
set_option maxRecDepth 100000 in
theorem m_973 : (.instanceMethod yX13_owed : Cond) ∈ jw := jin (jt_10 _ (List.mem_of_getElem? (i := 35) (by decide +kernel))) (by decide +kernel)
set_option maxRecDepth 100000 in
theorem m_974 : (.selects RX13 yX13_owed yX13_owed : Cond) ∈ jw := jin (jt_10 _ (List.mem_of_getElem? (i := 36) (by decide +kernel))) (by decide +kernel)
set_option maxRecDepth 100000 in
theorem m_975 : (.code yX13_owed cX13_owed 4 (some .int) : Cond) ∈ jw := jin (jt_10 _ (List.mem_of_getElem? (i := 37) (by decide +kernel))) (by decide +kernel)
set_option maxRecDepth 100000 in
theorem m_976 : (.methodLink RL 174 yX12_lengths : Cond) ∈ jw := jin (jt_6 _ (List.mem_of_getElem? (i := 91) (by decide +kernel))) (by decide +kernel)
set_option maxRecDepth 100000 in
theorem m_977 : (.instanceMethod yX12_lengths : Cond) ∈ jw := jin (jt_6 _ (List.mem_of_getElem? (i := 92) (by decide +kernel))) (by decide +kernel)
set_option maxRecDepth 100000 in
theorem m_978 : (.selects RX12 yX12_lengths yX12_lengths : Cond) ∈ jw := jin (jt_6 _ (List.mem_of_getElem? (i := 93) (by decide +kernel))) (by decide +kernel)
set_option maxRecDepth 100000 in
theorem m_979 : (.code yX12_lengths cX12_lengths 3 (some .int) : Cond) ∈ jw := jin (jt_6 _ (List.mem_of_getElem? (i := 94) (by decide +kernel))) (by decide +kernel)
set_option maxRecDepth 100000 in
theorem m_980 : (.methodLink RL 177 yX13_lengths : Cond) ∈ jw := jin (jt_10 _ (List.mem_of_getElem? (i := 38) (by decide +kernel))) (by decide +kernel)
set_option maxRecDepth 100000 in
theorem m_981 : (.instanceMethod yX13_lengths : Cond) ∈ jw := jin (jt_10 _ (List.mem_of_getElem? (i := 39) (by decide +kernel))) (by decide +kernel)
set_option maxRecDepth 100000 in
theorem m_982 : (.selects RX13 yX13_lengths yX13_lengths : Cond) ∈ jw := jin (jt_10 _ (List.mem_of_getElem? (i := 40) (by decide +kernel))) (by decide +kernel)
set_option maxRecDepth 100000 in
theorem m_983 : (.code yX13_lengths cX13_lengths 3 (some .int) : Cond) ∈ jw := jin (jt_10 _ (List.mem_of_getElem? (i := 41) (by decide +kernel))) (by decide +kernel)
set_option maxRecDepth 100000 in
theorem m_984 : (.methodLink RL 178 yX12_length : Cond) ∈ jw := jin (jt_6 _ (List.mem_of_getElem? (i := 136) (by decide +kernel))) (by decide +kernel)
set_option maxRecDepth 100000 in
theorem m_985 : (.instanceMethod yX12_length : Cond) ∈ jw := jin (jt_6 _ (List.mem_of_getElem? (i := 137) (by decide +kernel))) (by decide +kernel)
set_option maxRecDepth 100000 in
theorem m_986 : (.selects RX12 yX12_length yX12_length : Cond) ∈ jw := jin (jt_6 _ (List.mem_of_getElem? (i := 138) (by decide +kernel))) (by decide +kernel)
set_option maxRecDepth 100000 in
theorem m_987 : (.code yX12_length cX12_length 4 (some .int) : Cond) ∈ jw := jin (jt_6 _ (List.mem_of_getElem? (i := 139) (by decide +kernel))) (by decide +kernel)
set_option maxRecDepth 100000 in
theorem m_988 : (.methodLink RL 181 yX13_length : Cond) ∈ jw := jin (jt_10 _ (List.mem_of_getElem? (i := 49) (by decide +kernel))) (by decide +kernel)
set_option maxRecDepth 100000 in
theorem m_989 : (.instanceMethod yX13_length : Cond) ∈ jw := jin (jt_10 _ (List.mem_of_getElem? (i := 50) (by decide +kernel))) (by decide +kernel)
set_option maxRecDepth 100000 in
theorem m_990 : (.selects RX13 yX13_length yX13_length : Cond) ∈ jw := jin (jt_10 _ (List.mem_of_getElem? (i := 51) (by decide +kernel))) (by decide +kernel)
set_option maxRecDepth 100000 in
theorem m_991 : (.code yX13_length cX13_length 3 (some .int) : Cond) ∈ jw := jin (jt_10 _ (List.mem_of_getElem? (i := 52) (by decide +kernel))) (by decide +kernel)
set_option maxRecDepth 100000 in
theorem m_992 : (.methodLink RL 182 yX12_giving : Cond) ∈ jw := jin (jt_6 _ (List.mem_of_getElem? (i := 144) (by decide +kernel))) (by decide +kernel)
set_option maxRecDepth 100000 in
theorem m_993 : (.instanceMethod yX12_giving : Cond) ∈ jw := jin (jt_6 _ (List.mem_of_getElem? (i := 145) (by decide +kernel))) (by decide +kernel)
set_option maxRecDepth 100000 in
theorem m_994 : (.selects RX12 yX12_giving yX12_giving : Cond) ∈ jw := jin (jt_6 _ (List.mem_of_getElem? (i := 146) (by decide +kernel))) (by decide +kernel)
set_option maxRecDepth 100000 in
theorem m_995 : (.code yX12_giving cX12_giving 4 (some .int) : Cond) ∈ jw := jin (jt_6 _ (List.mem_of_getElem? (i := 147) (by decide +kernel))) (by decide +kernel)
set_option maxRecDepth 100000 in
theorem m_996 : (.methodLink RL 185 yX13_giving : Cond) ∈ jw := jin (jt_10 _ (List.mem_of_getElem? (i := 53) (by decide +kernel))) (by decide +kernel)
set_option maxRecDepth 100000 in
theorem m_997 : (.instanceMethod yX13_giving : Cond) ∈ jw := jin (jt_10 _ (List.mem_of_getElem? (i := 54) (by decide +kernel))) (by decide +kernel)
set_option maxRecDepth 100000 in
theorem m_998 : (.selects RX13 yX13_giving yX13_giving : Cond) ∈ jw := jin (jt_10 _ (List.mem_of_getElem? (i := 55) (by decide +kernel))) (by decide +kernel)
set_option maxRecDepth 100000 in
theorem m_999 : (.code yX13_giving cX13_giving 4 (some .int) : Cond) ∈ jw := jin (jt_10 _ (List.mem_of_getElem? (i := 56) (by decide +kernel))) (by decide +kernel)
set_option maxRecDepth 100000 in
theorem m_1000 : (.methodLink RL 186 yX12_given : Cond) ∈ jw := jin (jt_6 _ (List.mem_of_getElem? (i := 214) (by decide +kernel))) (by decide +kernel)
set_option maxRecDepth 100000 in
theorem m_1001 : (.instanceMethod yX12_given : Cond) ∈ jw := jin (jt_6 _ (List.mem_of_getElem? (i := 215) (by decide +kernel))) (by decide +kernel)
set_option maxRecDepth 100000 in
theorem m_1002 : (.selects RX12 yX12_given yX12_given : Cond) ∈ jw := jin (jt_6 _ (List.mem_of_getElem? (i := 216) (by decide +kernel))) (by decide +kernel)
set_option maxRecDepth 100000 in
theorem m_1003 : (.code yX12_given cX12_given 6 (some .int) : Cond) ∈ jw := jin (jt_6 _ (List.mem_of_getElem? (i := 217) (by decide +kernel))) (by decide +kernel)
set_option maxRecDepth 100000 in
theorem m_1004 : (.methodLink RL 189 yX13_given : Cond) ∈ jw := jin (jt_10 _ (List.mem_of_getElem? (i := 66) (by decide +kernel))) (by decide +kernel)
set_option maxRecDepth 100000 in
theorem m_1005 : (.instanceMethod yX13_given : Cond) ∈ jw := jin (jt_10 _ (List.mem_of_getElem? (i := 67) (by decide +kernel))) (by decide +kernel)
set_option maxRecDepth 100000 in
theorem m_1006 : (.selects RX13 yX13_given yX13_given : Cond) ∈ jw := jin (jt_10 _ (List.mem_of_getElem? (i := 68) (by decide +kernel))) (by decide +kernel)
set_option maxRecDepth 100000 in
theorem m_1007 : (.code yX13_given cX13_given 7 (some .int) : Cond) ∈ jw := jin (jt_10 _ (List.mem_of_getElem? (i := 69) (by decide +kernel))) (by decide +kernel)
set_option maxRecDepth 100000 in
theorem m_1008 : (.methodLink RL 190 yX12_index : Cond) ∈ jw := jin (jt_6 _ (List.mem_of_getElem? (i := 223) (by decide +kernel))) (by decide +kernel)
set_option maxRecDepth 100000 in
theorem m_1009 : (.instanceMethod yX12_index : Cond) ∈ jw := jin (jt_6 _ (List.mem_of_getElem? (i := 224) (by decide +kernel))) (by decide +kernel)
set_option maxRecDepth 100000 in
theorem m_1010 : (.selects RX12 yX12_index yX12_index : Cond) ∈ jw := jin (jt_6 _ (List.mem_of_getElem? (i := 225) (by decide +kernel))) (by decide +kernel)
set_option maxRecDepth 100000 in
theorem m_1011 : (.code yX12_index cX12_index 9 (some .int) : Cond) ∈ jw := jin (jt_6 _ (List.mem_of_getElem? (i := 226) (by decide +kernel))) (by decide +kernel)
set_option maxRecDepth 100000 in
theorem m_1012 : (.methodLink RL 193 yX13_index : Cond) ∈ jw := jin (jt_10 _ (List.mem_of_getElem? (i := 70) (by decide +kernel))) (by decide +kernel)
set_option maxRecDepth 100000 in
theorem m_1013 : (.instanceMethod yX13_index : Cond) ∈ jw := jin (jt_10 _ (List.mem_of_getElem? (i := 71) (by decide +kernel))) (by decide +kernel)
set_option maxRecDepth 100000 in
theorem m_1014 : (.selects RX13 yX13_index yX13_index : Cond) ∈ jw := jin (jt_10 _ (List.mem_of_getElem? (i := 72) (by decide +kernel))) (by decide +kernel)
set_option maxRecDepth 100000 in
theorem m_1015 : (.code yX13_index cX13_index 9 (some .int) : Cond) ∈ jw := jin (jt_10 _ (List.mem_of_getElem? (i := 73) (by decide +kernel))) (by decide +kernel)
set_option maxRecDepth 100000 in
theorem m_1016 : (.methodLink RL 194 yX12_steal : Cond) ∈ jw := jin (jt_6 _ (List.mem_of_getElem? (i := 231) (by decide +kernel))) (by decide +kernel)
set_option maxRecDepth 100000 in
theorem m_1017 : (.instanceMethod yX12_steal : Cond) ∈ jw := jin (jt_6 _ (List.mem_of_getElem? (i := 232) (by decide +kernel))) (by decide +kernel)
set_option maxRecDepth 100000 in
theorem m_1018 : (.selects RX12 yX12_steal yX12_steal : Cond) ∈ jw := jin (jt_6 _ (List.mem_of_getElem? (i := 233) (by decide +kernel))) (by decide +kernel)
set_option maxRecDepth 100000 in
theorem m_1019 : (.code yX12_steal cX12_steal 2 (some .int) : Cond) ∈ jw := jin (jt_6 _ (List.mem_of_getElem? (i := 234) (by decide +kernel))) (by decide +kernel)
set_option maxRecDepth 100000 in
theorem m_1020 : (.methodLink RL 197 yX13_steal : Cond) ∈ jw := jin (jt_10 _ (List.mem_of_getElem? (i := 74) (by decide +kernel))) (by decide +kernel)
set_option maxRecDepth 100000 in
theorem m_1021 : (.instanceMethod yX13_steal : Cond) ∈ jw := jin (jt_10 _ (List.mem_of_getElem? (i := 75) (by decide +kernel))) (by decide +kernel)
set_option maxRecDepth 100000 in
theorem m_1022 : (.selects RX13 yX13_steal yX13_steal : Cond) ∈ jw := jin (jt_10 _ (List.mem_of_getElem? (i := 76) (by decide +kernel))) (by decide +kernel)
set_option maxRecDepth 100000 in
theorem m_1023 : (.code yX13_steal cX13_steal 2 (some .int) : Cond) ∈ jw := jin (jt_10 _ (List.mem_of_getElem? (i := 77) (by decide +kernel))) (by decide +kernel)
set_option maxRecDepth 100000 in
theorem m_1024 : (.methodLink RL 198 yX12_forget : Cond) ∈ jw := jin (jt_6 _ (List.mem_of_getElem? (i := 239) (by decide +kernel))) (by decide +kernel)
set_option maxRecDepth 100000 in
theorem m_1025 : (.instanceMethod yX12_forget : Cond) ∈ jw := jin (jt_7 _ (List.mem_of_getElem? (i := 0) (by decide +kernel))) (by decide +kernel)
set_option maxRecDepth 100000 in
theorem m_1026 : (.selects RX12 yX12_forget yX12_forget : Cond) ∈ jw := jin (jt_7 _ (List.mem_of_getElem? (i := 1) (by decide +kernel))) (by decide +kernel)
set_option maxRecDepth 100000 in
theorem m_1027 : (.code yX12_forget cX12_forget 2 (some .int) : Cond) ∈ jw := jin (jt_7 _ (List.mem_of_getElem? (i := 2) (by decide +kernel))) (by decide +kernel)
set_option maxRecDepth 100000 in
theorem m_1028 : (.methodLink RL 201 yX13_forget : Cond) ∈ jw := jin (jt_10 _ (List.mem_of_getElem? (i := 78) (by decide +kernel))) (by decide +kernel)
set_option maxRecDepth 100000 in
theorem m_1029 : (.instanceMethod yX13_forget : Cond) ∈ jw := jin (jt_10 _ (List.mem_of_getElem? (i := 79) (by decide +kernel))) (by decide +kernel)
set_option maxRecDepth 100000 in
theorem m_1030 : (.selects RX13 yX13_forget yX13_forget : Cond) ∈ jw := jin (jt_10 _ (List.mem_of_getElem? (i := 80) (by decide +kernel))) (by decide +kernel)
set_option maxRecDepth 100000 in
theorem m_1031 : (.code yX13_forget cX13_forget 2 (some .int) : Cond) ∈ jw := jin (jt_10 _ (List.mem_of_getElem? (i := 81) (by decide +kernel))) (by decide +kernel)
set_option maxRecDepth 100000 in
theorem m_1032 : (.methodLink RL 202 yX12_thief : Cond) ∈ jw := jin (jt_7 _ (List.mem_of_getElem? (i := 3) (by decide +kernel))) (by decide +kernel)
set_option maxRecDepth 100000 in
theorem m_1033 : (.instanceMethod yX12_thief : Cond) ∈ jw := jin (jt_7 _ (List.mem_of_getElem? (i := 4) (by decide +kernel))) (by decide +kernel)
set_option maxRecDepth 100000 in
theorem m_1034 : (.selects RX12 yX12_thief yX12_thief : Cond) ∈ jw := jin (jt_7 _ (List.mem_of_getElem? (i := 5) (by decide +kernel))) (by decide +kernel)
set_option maxRecDepth 100000 in
theorem m_1035 : (.code yX12_thief cX12_thief 6 (some .int) : Cond) ∈ jw := jin (jt_7 _ (List.mem_of_getElem? (i := 6) (by decide +kernel))) (by decide +kernel)
set_option maxRecDepth 100000 in
theorem m_1036 : (.methodLink RL 205 yX13_thief : Cond) ∈ jw := jin (jt_10 _ (List.mem_of_getElem? (i := 82) (by decide +kernel))) (by decide +kernel)
set_option maxRecDepth 100000 in
theorem m_1037 : (.instanceMethod yX13_thief : Cond) ∈ jw := jin (jt_10 _ (List.mem_of_getElem? (i := 83) (by decide +kernel))) (by decide +kernel)
set_option maxRecDepth 100000 in
theorem m_1038 : (.selects RX13 yX13_thief yX13_thief : Cond) ∈ jw := jin (jt_10 _ (List.mem_of_getElem? (i := 84) (by decide +kernel))) (by decide +kernel)
set_option maxRecDepth 100000 in
theorem m_1039 : (.code yX13_thief cX13_thief 8 (some .int) : Cond) ∈ jw := jin (jt_10 _ (List.mem_of_getElem? (i := 85) (by decide +kernel))) (by decide +kernel)
set_option maxRecDepth 100000 in
theorem m_1040 : (.methodLink RL 206 yX12_is : Cond) ∈ jw := jin (jt_7 _ (List.mem_of_getElem? (i := 29) (by decide +kernel))) (by decide +kernel)
set_option maxRecDepth 100000 in
theorem m_1041 : (.instanceMethod yX12_is : Cond) ∈ jw := jin (jt_7 _ (List.mem_of_getElem? (i := 30) (by decide +kernel))) (by decide +kernel)
set_option maxRecDepth 100000 in
theorem m_1042 : (.selects RX12 yX12_is yX12_is : Cond) ∈ jw := jin (jt_7 _ (List.mem_of_getElem? (i := 31) (by decide +kernel))) (by decide +kernel)
set_option maxRecDepth 100000 in
theorem m_1043 : (.code yX12_is cX12_is 4 (some .int) : Cond) ∈ jw := jin (jt_7 _ (List.mem_of_getElem? (i := 32) (by decide +kernel))) (by decide +kernel)
set_option maxRecDepth 100000 in
theorem m_1044 : (.methodLink RL 209 yX13_is : Cond) ∈ jw := jin (jt_10 _ (List.mem_of_getElem? (i := 94) (by decide +kernel))) (by decide +kernel)
set_option maxRecDepth 100000 in
theorem m_1045 : (.instanceMethod yX13_is : Cond) ∈ jw := jin (jt_10 _ (List.mem_of_getElem? (i := 95) (by decide +kernel))) (by decide +kernel)
set_option maxRecDepth 100000 in
theorem m_1046 : (.selects RX13 yX13_is yX13_is : Cond) ∈ jw := jin (jt_10 _ (List.mem_of_getElem? (i := 96) (by decide +kernel))) (by decide +kernel)
set_option maxRecDepth 100000 in
theorem m_1047 : (.code yX13_is cX13_is 5 (some .int) : Cond) ∈ jw := jin (jt_10 _ (List.mem_of_getElem? (i := 97) (by decide +kernel))) (by decide +kernel)
set_option maxRecDepth 100000 in
theorem m_1048 : (.methodLink RL 210 yX12_count : Cond) ∈ jw := jin (jt_7 _ (List.mem_of_getElem? (i := 37) (by decide +kernel))) (by decide +kernel)
set_option maxRecDepth 100000 in
theorem m_1049 : (.instanceMethod yX12_count : Cond) ∈ jw := jin (jt_7 _ (List.mem_of_getElem? (i := 38) (by decide +kernel))) (by decide +kernel)
set_option maxRecDepth 100000 in
theorem m_1050 : (.selects RX12 yX12_count yX12_count : Cond) ∈ jw := jin (jt_7 _ (List.mem_of_getElem? (i := 39) (by decide +kernel))) (by decide +kernel)
set_option maxRecDepth 100000 in
theorem m_1051 : (.code yX12_count cX12_count 2 (some .int) : Cond) ∈ jw := jin (jt_7 _ (List.mem_of_getElem? (i := 40) (by decide +kernel))) (by decide +kernel)
set_option maxRecDepth 100000 in
theorem m_1052 : (.methodLink RL 213 yX13_count : Cond) ∈ jw := jin (jt_10 _ (List.mem_of_getElem? (i := 98) (by decide +kernel))) (by decide +kernel)
set_option maxRecDepth 100000 in
theorem m_1053 : (.instanceMethod yX13_count : Cond) ∈ jw := jin (jt_10 _ (List.mem_of_getElem? (i := 99) (by decide +kernel))) (by decide +kernel)
set_option maxRecDepth 100000 in
theorem m_1054 : (.selects RX13 yX13_count yX13_count : Cond) ∈ jw := jin (jt_10 _ (List.mem_of_getElem? (i := 100) (by decide +kernel))) (by decide +kernel)
set_option maxRecDepth 100000 in
theorem m_1055 : (.code yX13_count cX13_count 4 (some .int) : Cond) ∈ jw := jin (jt_10 _ (List.mem_of_getElem? (i := 101) (by decide +kernel))) (by decide +kernel)
set_option maxRecDepth 100000 in
theorem m_1056 : (.classLink RL 7 RX12 : Cond) ∈ jw := jin (jt_1 _ (List.mem_of_getElem? (i := 25) (by decide +kernel))) (by decide +kernel)
set_option maxRecDepth 100000 in
theorem m_1057 : (.code yX12_init cX12_init 2 none : Cond) ∈ jw := jin (jt_1 _ (List.mem_of_getElem? (i := 29) (by decide +kernel))) (by decide +kernel)
set_option maxRecDepth 100000 in
theorem m_1058 : (.methodLink RL 9 yX12_init : Cond) ∈ jw := jin (jt_1 _ (List.mem_of_getElem? (i := 27) (by decide +kernel))) (by decide +kernel)
set_option maxRecDepth 100000 in
theorem m_1059 : (.instanceMethod yX12_init : Cond) ∈ jw := jin (jt_1 _ (List.mem_of_getElem? (i := 28) (by decide +kernel))) (by decide +kernel)
set_option maxRecDepth 100000 in
theorem m_1060 : (.classLink RL 10 RX13 : Cond) ∈ jw := jin (jt_7 _ (List.mem_of_getElem? (i := 49) (by decide +kernel))) (by decide +kernel)
set_option maxRecDepth 100000 in
theorem m_1061 : (.code yX13_init cX13_init 1 none : Cond) ∈ jw := jin (jt_7 _ (List.mem_of_getElem? (i := 53) (by decide +kernel))) (by decide +kernel)
set_option maxRecDepth 100000 in
theorem m_1062 : (.methodLink RL 12 yX13_init : Cond) ∈ jw := jin (jt_7 _ (List.mem_of_getElem? (i := 51) (by decide +kernel))) (by decide +kernel)
set_option maxRecDepth 100000 in
theorem m_1063 : (.instanceMethod yX13_init : Cond) ∈ jw := jin (jt_7 _ (List.mem_of_getElem? (i := 52) (by decide +kernel))) (by decide +kernel)
set_option maxRecDepth 100000 in
theorem hin0_RX0 : u_ws RX0 TX0 18 = ([855, 857, 859, 861, 863, 865, 867, 869, 871, 873, 875, 877, 879, 881, 883, 885, 887, 889] : List Nat).filterMap (fun i => tables_1[i]?) := by decide +kernel
set_option maxRecDepth 100000 in
theorem hin_RX0 : ∀ w ∈ u_ws RX0 TX0 18, w ∈ jw := fun w h => jin (jt_all w (jpos (hin0_RX0 ▸ h))) ((by decide +kernel : ∀ w ∈ u_ws RX0 TX0 18, goodWord w = true) w h)
set_option maxRecDepth 100000 in
theorem hin0_RX1 : u_ws RX1 TX1 10 = ([287, 289, 291, 293, 295, 297, 299, 301, 303, 305] : List Nat).filterMap (fun i => tables_1[i]?) := by decide +kernel
set_option maxRecDepth 100000 in
theorem hin_RX1 : ∀ w ∈ u_ws RX1 TX1 10, w ∈ jw := fun w h => jin (jt_all w (jpos (hin0_RX1 ▸ h))) ((by decide +kernel : ∀ w ∈ u_ws RX1 TX1 10, goodWord w = true) w h)
set_option maxRecDepth 100000 in
theorem hin0_RX10 : u_ws RX10 TX10 3 = ([318, 320, 322] : List Nat).filterMap (fun i => tables_1[i]?) := by decide +kernel
set_option maxRecDepth 100000 in
theorem hin_RX10 : ∀ w ∈ u_ws RX10 TX10 3, w ∈ jw := fun w h => jin (jt_all w (jpos (hin0_RX10 ▸ h))) ((by decide +kernel : ∀ w ∈ u_ws RX10 TX10 3, goodWord w = true) w h)
set_option maxRecDepth 100000 in
theorem hin0_RX11 : u_ws RX11 TX11 7 = ([171, 173, 175, 177, 179, 181, 183] : List Nat).filterMap (fun i => tables_1[i]?) := by decide +kernel
set_option maxRecDepth 100000 in
theorem hin_RX11 : ∀ w ∈ u_ws RX11 TX11 7, w ∈ jw := fun w h => jin (jt_all w (jpos (hin0_RX11 ▸ h))) ((by decide +kernel : ∀ w ∈ u_ws RX11 TX11 7, goodWord w = true) w h)
set_option maxRecDepth 100000 in
theorem hin0_RX12 : u_ws RX12 TX12 20 = ([345, 347, 349, 351, 353, 355, 357, 359, 361, 363, 365, 367, 369, 371, 373, 375, 377, 379, 381, 383] : List Nat).filterMap (fun i => tables_1[i]?) := by decide +kernel
set_option maxRecDepth 100000 in
theorem hin_RX12 : ∀ w ∈ u_ws RX12 TX12 20, w ∈ jw := fun w h => jin (jt_all w (jpos (hin0_RX12 ▸ h))) ((by decide +kernel : ∀ w ∈ u_ws RX12 TX12 20, goodWord w = true) w h)
set_option maxRecDepth 100000 in
theorem hin0_RX13 : u_ws RX13 TX13 104 = ([1599, 1601, 1603, 1605, 1607, 1609, 1611, 1613, 1615, 1617, 1619, 1621, 1623, 1625, 1627, 1629, 1631, 1633, 1635, 1637, 1639, 1641, 1643, 1645, 1647, 1649, 1651, 1653, 1655, 1657, 1659, 1661, 1663, 1665, 1667, 1669, 1671, 1673, 1675, 1677, 1679, 1681, 1683, 1685, 1687, 1689, 1691, 1693, 1695, 1697, 1699, 1701, 1703, 1705, 1707, 1709, 1711, 1713, 1715, 1717, 1719, 1721, 1723, 1725, 1727, 1729, 1731, 1733, 1735, 1737, 1739, 1741, 1743, 1745, 1747, 1749, 1751, 1753, 1755, 1757, 1759, 1761, 1763, 1765, 1767, 1769, 1771, 1773, 1775, 1777, 1779, 1781, 1783, 1785, 1787, 1789, 1791, 1793, 1795, 1797, 1799, 1801, 1803, 1805] : List Nat).filterMap (fun i => tables_1[i]?) := by decide +kernel
set_option maxRecDepth 100000 in
theorem hin_RX13 : ∀ w ∈ u_ws RX13 TX13 104, w ∈ jw := fun w h => jin (jt_all w (jpos (hin0_RX13 ▸ h))) ((by decide +kernel : ∀ w ∈ u_ws RX13 TX13 104, goodWord w = true) w h)
set_option maxRecDepth 100000 in
theorem hin0_RX2 : u_ws RX2 TX2 6 = ([995, 997, 999, 1001, 1003, 1005] : List Nat).filterMap (fun i => tables_1[i]?) := by decide +kernel
set_option maxRecDepth 100000 in
theorem hin_RX2 : ∀ w ∈ u_ws RX2 TX2 6, w ∈ jw := fun w h => jin (jt_all w (jpos (hin0_RX2 ▸ h))) ((by decide +kernel : ∀ w ∈ u_ws RX2 TX2 6, goodWord w = true) w h)
set_option maxRecDepth 100000 in
theorem hin0_RX3 : u_ws RX3 TX3 7 = ([255, 257, 259, 261, 263, 265, 267] : List Nat).filterMap (fun i => tables_1[i]?) := by decide +kernel
set_option maxRecDepth 100000 in
theorem hin_RX3 : ∀ w ∈ u_ws RX3 TX3 7, w ∈ jw := fun w h => jin (jt_all w (jpos (hin0_RX3 ▸ h))) ((by decide +kernel : ∀ w ∈ u_ws RX3 TX3 7, goodWord w = true) w h)
set_option maxRecDepth 100000 in
theorem hin0_RX4 : u_ws RX4 TX4 9 = ([1109, 1111, 1113, 1115, 1117, 1119, 1121, 1123, 1125] : List Nat).filterMap (fun i => tables_1[i]?) := by decide +kernel
set_option maxRecDepth 100000 in
theorem hin_RX4 : ∀ w ∈ u_ws RX4 TX4 9, w ∈ jw := fun w h => jin (jt_all w (jpos (hin0_RX4 ▸ h))) ((by decide +kernel : ∀ w ∈ u_ws RX4 TX4 9, goodWord w = true) w h)
set_option maxRecDepth 100000 in
theorem hin0_RX5 : u_ws RX5 TX5 12 = ([214, 216, 218, 220, 222, 224, 226, 228, 230, 232, 234, 236] : List Nat).filterMap (fun i => tables_1[i]?) := by decide +kernel
set_option maxRecDepth 100000 in
theorem hin_RX5 : ∀ w ∈ u_ws RX5 TX5 12, w ∈ jw := fun w h => jin (jt_all w (jpos (hin0_RX5 ▸ h))) ((by decide +kernel : ∀ w ∈ u_ws RX5 TX5 12, goodWord w = true) w h)
set_option maxRecDepth 100000 in
theorem hin0_RX6 : u_ws RX6 TX6 6 = ([136, 138, 140, 142, 144, 146] : List Nat).filterMap (fun i => tables_1[i]?) := by decide +kernel
set_option maxRecDepth 100000 in
theorem hin_RX6 : ∀ w ∈ u_ws RX6 TX6 6, w ∈ jw := fun w h => jin (jt_all w (jpos (hin0_RX6 ▸ h))) ((by decide +kernel : ∀ w ∈ u_ws RX6 TX6 6, goodWord w = true) w h)
set_option maxRecDepth 100000 in
theorem hin0_RX7 : u_ws RX7 TX7 15 = ([55, 57, 59, 61, 63, 65, 67, 69, 71, 73, 75, 77, 79, 81, 83] : List Nat).filterMap (fun i => tables_1[i]?) := by decide +kernel
set_option maxRecDepth 100000 in
theorem hin_RX7 : ∀ w ∈ u_ws RX7 TX7 15, w ∈ jw := fun w h => jin (jt_all w (jpos (hin0_RX7 ▸ h))) ((by decide +kernel : ∀ w ∈ u_ws RX7 TX7 15, goodWord w = true) w h)
set_option maxRecDepth 100000 in
theorem hin0_RX8 : u_ws RX8 TX8 8 = ([106, 108, 110, 112, 114, 116, 118, 120] : List Nat).filterMap (fun i => tables_1[i]?) := by decide +kernel
set_option maxRecDepth 100000 in
theorem hin_RX8 : ∀ w ∈ u_ws RX8 TX8 8, w ∈ jw := fun w h => jin (jt_all w (jpos (hin0_RX8 ▸ h))) ((by decide +kernel : ∀ w ∈ u_ws RX8 TX8 8, goodWord w = true) w h)
set_option maxRecDepth 100000 in
theorem hin0_RX9 : u_ws RX9 TX9 4 = ([655, 657, 659, 661] : List Nat).filterMap (fun i => tables_1[i]?) := by decide +kernel
set_option maxRecDepth 100000 in
theorem hin_RX9 : ∀ w ∈ u_ws RX9 TX9 4, w ∈ jw := fun w h => jin (jt_all w (jpos (hin0_RX9 ▸ h))) ((by decide +kernel : ∀ w ∈ u_ws RX9 TX9 4, goodWord w = true) w h)
set_option maxRecDepth 100000 in
theorem n_0 : (.arrayOver (.object RX9) : Cond) ∈ lw_tbl := jt_1 _ (List.mem_of_getElem? (i := 96) (by decide +kernel))
set_option maxRecDepth 100000 in
theorem n_1 : (.arrayOver (.object RX11) : Cond) ∈ lw_tbl := jt_1 _ (List.mem_of_getElem? (i := 150) (by decide +kernel))
set_option maxRecDepth 100000 in
theorem n_2 : (.arrayOver (.object RX0) : Cond) ∈ lw_tbl := jt_1 _ (List.mem_of_getElem? (i := 187) (by decide +kernel))
set_option maxRecDepth 100000 in
theorem n_3 : (.arrayOver (.object RX2) : Cond) ∈ lw_tbl := jt_1 _ (List.mem_of_getElem? (i := 189) (by decide +kernel))
set_option maxRecDepth 100000 in
theorem n_4 : (.arrayOver (.object RX4) : Cond) ∈ lw_tbl := jt_1 _ (List.mem_of_getElem? (i := 191) (by decide +kernel))
set_option maxRecDepth 100000 in
theorem n_5 : (.methodLinkNest RX12 9 yX7_init RX12 : Cond) ∈ lw_tbl := jt_1 _ (List.mem_of_getElem? (i := 35) (by decide +kernel))
set_option maxRecDepth 100000 in
theorem n_6 : (.methodLinkNest RX12 18 yX8_init RX12 : Cond) ∈ lw_tbl := jt_1 _ (List.mem_of_getElem? (i := 91) (by decide +kernel))
set_option maxRecDepth 100000 in
theorem n_7 : (.methodLinkNest RX12 84 yX3_init RX12 : Cond) ∈ lw_tbl := jt_2 _ (List.mem_of_getElem? (i := 3) (by decide +kernel))
set_option maxRecDepth 100000 in
theorem n_8 : (.methodLinkNest RX12 91 yX1_init RX12 : Cond) ∈ lw_tbl := jt_2 _ (List.mem_of_getElem? (i := 32) (by decide +kernel))
set_option maxRecDepth 100000 in
theorem n_9 : (.methodLinkNest RX12 98 yX10_init RX12 : Cond) ∈ lw_tbl := jt_2 _ (List.mem_of_getElem? (i := 70) (by decide +kernel))
set_option maxRecDepth 100000 in
theorem n_10 : (.methodLinkNest RX7 75 yX9_init RX12 : Cond) ∈ lw_tbl := jt_3 _ (List.mem_of_getElem? (i := 162) (by decide +kernel))
set_option maxRecDepth 100000 in
theorem n_11 : (.castable "[I" "java/lang/Cloneable" : Cond) ∈ lw_tbl := jt_3 _ (List.mem_of_getElem? (i := 193) (by decide +kernel))
set_option maxRecDepth 100000 in
theorem n_12 : (.laysStatic "BookOfAll$Rules" "WITHOUT" "[I" : Cond) ∈ lw_tbl := jt_4 _ (List.mem_of_getElem? (i := 2) (by decide +kernel))
set_option maxRecDepth 100000 in
theorem n_13 : (.instantiable RX0 18 : Cond) ∈ lw_tbl := jt_4 _ (List.mem_of_getElem? (i := 98) (by decide +kernel))
set_option maxRecDepth 100000 in
theorem n_14 : (.instantiable RX1 10 : Cond) ∈ lw_tbl := jt_2 _ (List.mem_of_getElem? (i := 31) (by decide +kernel))
set_option maxRecDepth 100000 in
theorem n_15 : (.instantiable RX2 6 : Cond) ∈ lw_tbl := jt_5 _ (List.mem_of_getElem? (i := 20) (by decide +kernel))
set_option maxRecDepth 100000 in
theorem n_16 : (.instantiable RX3 7 : Cond) ∈ lw_tbl := jt_2 _ (List.mem_of_getElem? (i := 2) (by decide +kernel))
set_option maxRecDepth 100000 in
theorem n_17 : (.instantiable RX4 9 : Cond) ∈ lw_tbl := jt_5 _ (List.mem_of_getElem? (i := 127) (by decide +kernel))
set_option maxRecDepth 100000 in
theorem n_18 : (.instantiable RX5 12 : Cond) ∈ lw_tbl := jt_1 _ (List.mem_of_getElem? (i := 193) (by decide +kernel))
set_option maxRecDepth 100000 in
theorem n_19 : (.instantiable RX6 6 : Cond) ∈ lw_tbl := jt_1 _ (List.mem_of_getElem? (i := 124) (by decide +kernel))
set_option maxRecDepth 100000 in
theorem n_20 : (.instantiable RX7 15 : Cond) ∈ lw_tbl := jt_1 _ (List.mem_of_getElem? (i := 34) (by decide +kernel))
set_option maxRecDepth 100000 in
theorem n_21 : (.instantiable RX8 8 : Cond) ∈ lw_tbl := jt_1 _ (List.mem_of_getElem? (i := 90) (by decide +kernel))
set_option maxRecDepth 100000 in
theorem n_22 : (.instantiable RX9 4 : Cond) ∈ lw_tbl := jt_3 _ (List.mem_of_getElem? (i := 161) (by decide +kernel))
set_option maxRecDepth 100000 in
theorem n_23 : (.instantiable RX10 3 : Cond) ∈ lw_tbl := jt_2 _ (List.mem_of_getElem? (i := 69) (by decide +kernel))
set_option maxRecDepth 100000 in
theorem n_24 : (.instantiable RX11 7 : Cond) ∈ lw_tbl := jt_1 _ (List.mem_of_getElem? (i := 151) (by decide +kernel))
set_option maxRecDepth 100000 in
theorem n_25 : (.instantiable RX12 20 : Cond) ∈ lw_tbl := jt_1 _ (List.mem_of_getElem? (i := 26) (by decide +kernel))
set_option maxRecDepth 100000 in
theorem n_26 : (.instantiable RX13 104 : Cond) ∈ lw_tbl := jt_7 _ (List.mem_of_getElem? (i := 50) (by decide +kernel))
