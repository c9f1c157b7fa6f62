set_option maxRecDepth 100000 in
theorem hl_RX13_0 : u_lay RX13 TX13 0 ∈ jw := jin (jt_7 _ (List.mem_of_getElem? (i := 159) rfl)) rfl
set_option maxRecDepth 100000 in
theorem hl_RX13_1 : u_lay RX13 TX13 1 ∈ jw := jin (jt_7 _ (List.mem_of_getElem? (i := 161) rfl)) rfl
set_option maxRecDepth 100000 in
theorem hl_RX13_2 : u_lay RX13 TX13 2 ∈ jw := jin (jt_7 _ (List.mem_of_getElem? (i := 163) rfl)) rfl
set_option maxRecDepth 100000 in
theorem hl_RX13_3 : u_lay RX13 TX13 3 ∈ jw := jin (jt_7 _ (List.mem_of_getElem? (i := 165) rfl)) rfl
set_option maxRecDepth 100000 in
theorem hl_RX13_4 : u_lay RX13 TX13 4 ∈ jw := jin (jt_7 _ (List.mem_of_getElem? (i := 167) rfl)) rfl
set_option maxRecDepth 100000 in
theorem hl_RX13_5 : u_lay RX13 TX13 5 ∈ jw := jin (jt_7 _ (List.mem_of_getElem? (i := 169) rfl)) rfl
set_option maxRecDepth 100000 in
theorem hl_RX13_6 : u_lay RX13 TX13 6 ∈ jw := jin (jt_7 _ (List.mem_of_getElem? (i := 171) rfl)) rfl
set_option maxRecDepth 100000 in
theorem hl_RX13_7 : u_lay RX13 TX13 7 ∈ jw := jin (jt_7 _ (List.mem_of_getElem? (i := 173) rfl)) rfl
set_option maxRecDepth 100000 in
theorem hl_RX13_8 : u_lay RX13 TX13 8 ∈ jw := jin (jt_7 _ (List.mem_of_getElem? (i := 175) rfl)) rfl
set_option maxRecDepth 100000 in
theorem hl_RX13_9 : u_lay RX13 TX13 9 ∈ jw := jin (jt_7 _ (List.mem_of_getElem? (i := 177) rfl)) rfl
set_option maxRecDepth 100000 in
theorem hl_RX13_10 : u_lay RX13 TX13 10 ∈ jw := jin (jt_7 _ (List.mem_of_getElem? (i := 179) rfl)) rfl
set_option maxRecDepth 100000 in
theorem hl_RX13_11 : u_lay RX13 TX13 11 ∈ jw := jin (jt_7 _ (List.mem_of_getElem? (i := 181) rfl)) rfl
set_option maxRecDepth 100000 in
theorem hl_RX13_12 : u_lay RX13 TX13 12 ∈ jw := jin (jt_7 _ (List.mem_of_getElem? (i := 183) rfl)) rfl
set_option maxRecDepth 100000 in
theorem hl_RX13_13 : u_lay RX13 TX13 13 ∈ jw := jin (jt_7 _ (List.mem_of_getElem? (i := 185) rfl)) rfl
set_option maxRecDepth 100000 in
theorem hl_RX13_14 : u_lay RX13 TX13 14 ∈ jw := jin (jt_7 _ (List.mem_of_getElem? (i := 187) rfl)) rfl
set_option maxRecDepth 100000 in
theorem hl_RX13_15 : u_lay RX13 TX13 15 ∈ jw := jin (jt_7 _ (List.mem_of_getElem? (i := 189) rfl)) rfl
set_option maxRecDepth 100000 in
theorem hl_RX13_16 : u_lay RX13 TX13 16 ∈ jw := jin (jt_7 _ (List.mem_of_getElem? (i := 191) rfl)) rfl
set_option maxRecDepth 100000 in
theorem hl_RX13_17 : u_lay RX13 TX13 17 ∈ jw := jin (jt_7 _ (List.mem_of_getElem? (i := 193) rfl)) rfl
set_option maxRecDepth 100000 in
theorem hl_RX13_18 : u_lay RX13 TX13 18 ∈ jw := jin (jt_7 _ (List.mem_of_getElem? (i := 195) rfl)) rfl
set_option maxRecDepth 100000 in
theorem hl_RX13_19 : u_lay RX13 TX13 19 ∈ jw := jin (jt_7 _ (List.mem_of_getElem? (i := 197) rfl)) rfl
set_option maxRecDepth 100000 in
theorem hl_RX13_20 : u_lay RX13 TX13 20 ∈ jw := jin (jt_7 _ (List.mem_of_getElem? (i := 199) rfl)) rfl
set_option maxRecDepth 100000 in
theorem hl_RX13_21 : u_lay RX13 TX13 21 ∈ jw := jin (jt_7 _ (List.mem_of_getElem? (i := 201) rfl)) rfl
set_option maxRecDepth 100000 in
theorem hl_RX13_22 : u_lay RX13 TX13 22 ∈ jw := jin (jt_7 _ (List.mem_of_getElem? (i := 203) rfl)) rfl
set_option maxRecDepth 100000 in
theorem hl_RX13_23 : u_lay RX13 TX13 23 ∈ jw := jin (jt_7 _ (List.mem_of_getElem? (i := 205) rfl)) rfl
set_option maxRecDepth 100000 in
theorem hl_RX13_24 : u_lay RX13 TX13 24 ∈ jw := jin (jt_7 _ (List.mem_of_getElem? (i := 207) rfl)) rfl
set_option maxRecDepth 100000 in
theorem hl_RX13_25 : u_lay RX13 TX13 25 ∈ jw := jin (jt_7 _ (List.mem_of_getElem? (i := 209) rfl)) rfl
set_option maxRecDepth 100000 in
theorem hl_RX13_26 : u_lay RX13 TX13 26 ∈ jw := jin (jt_7 _ (List.mem_of_getElem? (i := 211) rfl)) rfl
set_option maxRecDepth 100000 in
theorem hl_RX13_27 : u_lay RX13 TX13 27 ∈ jw := jin (jt_7 _ (List.mem_of_getElem? (i := 213) rfl)) rfl
set_option maxRecDepth 100000 in
theorem hl_RX13_28 : u_lay RX13 TX13 28 ∈ jw := jin (jt_7 _ (List.mem_of_getElem? (i := 215) rfl)) rfl
set_option maxRecDepth 100000 in
theorem hl_RX13_29 : u_lay RX13 TX13 29 ∈ jw := jin (jt_7 _ (List.mem_of_getElem? (i := 217) rfl)) rfl
set_option maxRecDepth 100000 in
theorem hl_RX13_30 : u_lay RX13 TX13 30 ∈ jw := jin (jt_7 _ (List.mem_of_getElem? (i := 219) rfl)) rfl
set_option maxRecDepth 100000 in
theorem hl_RX13_31 : u_lay RX13 TX13 31 ∈ jw := jin (jt_7 _ (List.mem_of_getElem? (i := 221) rfl)) rfl
set_option maxRecDepth 100000 in
theorem hl_RX13_32 : u_lay RX13 TX13 32 ∈ jw := jin (jt_7 _ (List.mem_of_getElem? (i := 223) rfl)) rfl
set_option maxRecDepth 100000 in
theorem hl_RX13_33 : u_lay RX13 TX13 33 ∈ jw := jin (jt_7 _ (List.mem_of_getElem? (i := 225) rfl)) rfl
set_option maxRecDepth 100000 in
theorem hl_RX13_34 : u_lay RX13 TX13 34 ∈ jw := jin (jt_7 _ (List.mem_of_getElem? (i := 227) rfl)) rfl
set_option maxRecDepth 100000 in
theorem hl_RX13_35 : u_lay RX13 TX13 35 ∈ jw := jin (jt_7 _ (List.mem_of_getElem? (i := 229) rfl)) rfl
set_option maxRecDepth 100000 in
theorem hl_RX13_36 : u_lay RX13 TX13 36 ∈ jw := jin (jt_7 _ (List.mem_of_getElem? (i := 231) rfl)) rfl
set_option maxRecDepth 100000 in
theorem hl_RX13_37 : u_lay RX13 TX13 37 ∈ jw := jin (jt_7 _ (List.mem_of_getElem? (i := 233) rfl)) rfl
set_option maxRecDepth 100000 in
theorem hl_RX13_38 : u_lay RX13 TX13 38 ∈ jw := jin (jt_7 _ (List.mem_of_getElem? (i := 235) rfl)) rfl
set_option maxRecDepth 100000 in
theorem hl_RX13_39 : u_lay RX13 TX13 39 ∈ jw := jin (jt_7 _ (List.mem_of_getElem? (i := 237) rfl)) rfl
set_option maxRecDepth 100000 in
theorem hl_RX13_40 : u_lay RX13 TX13 40 ∈ jw := jin (jt_7 _ (List.mem_of_getElem? (i := 239) rfl)) rfl
set_option maxRecDepth 100000 in
theorem hl_RX13_41 : u_lay RX13 TX13 41 ∈ jw := jin (jt_8 _ (List.mem_of_getElem? (i := 1) rfl)) rfl
set_option maxRecDepth 100000 in
theorem hl_RX13_42 : u_lay RX13 TX13 42 ∈ jw := jin (jt_8 _ (List.mem_of_getElem? (i := 3) rfl)) rfl
set_option maxRecDepth 100000 in
theorem hl_RX13_43 : u_lay RX13 TX13 43 ∈ jw := jin (jt_8 _ (List.mem_of_getElem? (i := 5) rfl)) rfl
set_option maxRecDepth 100000 in
theorem hl_RX13_44 : u_lay RX13 TX13 44 ∈ jw := jin (jt_8 _ (List.mem_of_getElem? (i := 7) rfl)) rfl
set_option maxRecDepth 100000 in
theorem hl_RX13_45 : u_lay RX13 TX13 45 ∈ jw := jin (jt_8 _ (List.mem_of_getElem? (i := 9) rfl)) rfl
set_option maxRecDepth 100000 in
theorem hl_RX13_46 : u_lay RX13 TX13 46 ∈ jw := jin (jt_8 _ (List.mem_of_getElem? (i := 11) rfl)) rfl
set_option maxRecDepth 100000 in
theorem hl_RX13_47 : u_lay RX13 TX13 47 ∈ jw := jin (jt_8 _ (List.mem_of_getElem? (i := 13) rfl)) rfl
set_option maxRecDepth 100000 in
theorem hl_RX13_48 : u_lay RX13 TX13 48 ∈ jw := jin (jt_8 _ (List.mem_of_getElem? (i := 15) rfl)) rfl
set_option maxRecDepth 100000 in
theorem hl_RX13_49 : u_lay RX13 TX13 49 ∈ jw := jin (jt_8 _ (List.mem_of_getElem? (i := 17) rfl)) rfl
set_option maxRecDepth 100000 in
theorem hl_RX13_50 : u_lay RX13 TX13 50 ∈ jw := jin (jt_8 _ (List.mem_of_getElem? (i := 19) rfl)) rfl
set_option maxRecDepth 100000 in
theorem hl_RX13_51 : u_lay RX13 TX13 51 ∈ jw := jin (jt_8 _ (List.mem_of_getElem? (i := 21) rfl)) rfl
set_option maxRecDepth 100000 in
theorem hl_RX13_52 : u_lay RX13 TX13 52 ∈ jw := jin (jt_8 _ (List.mem_of_getElem? (i := 23) rfl)) rfl
set_option maxRecDepth 100000 in
theorem hl_RX13_53 : u_lay RX13 TX13 53 ∈ jw := jin (jt_8 _ (List.mem_of_getElem? (i := 25) rfl)) rfl
set_option maxRecDepth 100000 in
theorem hl_RX13_54 : u_lay RX13 TX13 54 ∈ jw := jin (jt_8 _ (List.mem_of_getElem? (i := 27) rfl)) rfl
set_option maxRecDepth 100000 in
theorem hl_RX13_55 : u_lay RX13 TX13 55 ∈ jw := jin (jt_8 _ (List.mem_of_getElem? (i := 29) rfl)) rfl
set_option maxRecDepth 100000 in
theorem hl_RX13_56 : u_lay RX13 TX13 56 ∈ jw := jin (jt_8 _ (List.mem_of_getElem? (i := 31) rfl)) rfl
set_option maxRecDepth 100000 in
theorem hl_RX13_57 : u_lay RX13 TX13 57 ∈ jw := jin (jt_8 _ (List.mem_of_getElem? (i := 33) rfl)) rfl
set_option maxRecDepth 100000 in
theorem hl_RX13_58 : u_lay RX13 TX13 58 ∈ jw := jin (jt_8 _ (List.mem_of_getElem? (i := 35) rfl)) rfl
set_option maxRecDepth 100000 in
theorem hl_RX13_59 : u_lay RX13 TX13 59 ∈ jw := jin (jt_8 _ (List.mem_of_getElem? (i := 37) rfl)) rfl
set_option maxRecDepth 100000 in
theorem hl_RX13_60 : u_lay RX13 TX13 60 ∈ jw := jin (jt_8 _ (List.mem_of_getElem? (i := 39) rfl)) rfl
set_option maxRecDepth 100000 in
theorem hl_RX13_61 : u_lay RX13 TX13 61 ∈ jw := jin (jt_8 _ (List.mem_of_getElem? (i := 41) rfl)) rfl
set_option maxRecDepth 100000 in
theorem hl_RX13_62 : u_lay RX13 TX13 62 ∈ jw := jin (jt_8 _ (List.mem_of_getElem? (i := 43) rfl)) rfl
set_option maxRecDepth 100000 in
theorem hl_RX13_63 : u_lay RX13 TX13 63 ∈ jw := jin (jt_8 _ (List.mem_of_getElem? (i := 45) rfl)) rfl
set_option maxRecDepth 100000 in
theorem hl_RX13_64 : u_lay RX13 TX13 64 ∈ jw := jin (jt_8 _ (List.mem_of_getElem? (i := 47) rfl)) rfl
set_option maxRecDepth 100000 in
theorem hl_RX13_65 : u_lay RX13 TX13 65 ∈ jw := jin (jt_8 _ (List.mem_of_getElem? (i := 49) rfl)) rfl
set_option maxRecDepth 100000 in
theorem hl_RX13_66 : u_lay RX13 TX13 66 ∈ jw := jin (jt_8 _ (List.mem_of_getElem? (i := 51) rfl)) rfl
set_option maxRecDepth 100000 in
theorem hl_RX13_67 : u_lay RX13 TX13 67 ∈ jw := jin (jt_8 _ (List.mem_of_getElem? (i := 53) rfl)) rfl
set_option maxRecDepth 100000 in
theorem hl_RX13_68 : u_lay RX13 TX13 68 ∈ jw := jin (jt_8 _ (List.mem_of_getElem? (i := 55) rfl)) rfl
set_option maxRecDepth 100000 in
theorem hl_RX13_69 : u_lay RX13 TX13 69 ∈ jw := jin (jt_8 _ (List.mem_of_getElem? (i := 57) rfl)) rfl
set_option maxRecDepth 100000 in
theorem hl_RX13_70 : u_lay RX13 TX13 70 ∈ jw := jin (jt_8 _ (List.mem_of_getElem? (i := 59) rfl)) rfl
set_option maxRecDepth 100000 in
theorem hl_RX13_71 : u_lay RX13 TX13 71 ∈ jw := jin (jt_8 _ (List.mem_of_getElem? (i := 61) rfl)) rfl
set_option maxRecDepth 100000 in
theorem hl_RX13_72 : u_lay RX13 TX13 72 ∈ jw := jin (jt_8 _ (List.mem_of_getElem? (i := 63) rfl)) rfl
set_option maxRecDepth 100000 in
theorem hl_RX13_73 : u_lay RX13 TX13 73 ∈ jw := jin (jt_8 _ (List.mem_of_getElem? (i := 65) rfl)) rfl
set_option maxRecDepth 100000 in
theorem hl_RX13_74 : u_lay RX13 TX13 74 ∈ jw := jin (jt_8 _ (List.mem_of_getElem? (i := 67) rfl)) rfl
set_option maxRecDepth 100000 in
theorem hl_RX13_75 : u_lay RX13 TX13 75 ∈ jw := jin (jt_8 _ (List.mem_of_getElem? (i := 69) rfl)) rfl
set_option maxRecDepth 100000 in
theorem hl_RX13_76 : u_lay RX13 TX13 76 ∈ jw := jin (jt_8 _ (List.mem_of_getElem? (i := 71) rfl)) rfl
set_option maxRecDepth 100000 in
theorem hl_RX13_77 : u_lay RX13 TX13 77 ∈ jw := jin (jt_8 _ (List.mem_of_getElem? (i := 73) rfl)) rfl
set_option maxRecDepth 100000 in
theorem hl_RX13_78 : u_lay RX13 TX13 78 ∈ jw := jin (jt_8 _ (List.mem_of_getElem? (i := 75) rfl)) rfl
set_option maxRecDepth 100000 in
theorem hl_RX13_79 : u_lay RX13 TX13 79 ∈ jw := jin (jt_8 _ (List.mem_of_getElem? (i := 77) rfl)) rfl
set_option maxRecDepth 100000 in
theorem hl_RX13_80 : u_lay RX13 TX13 80 ∈ jw := jin (jt_8 _ (List.mem_of_getElem? (i := 79) rfl)) rfl
set_option maxRecDepth 100000 in
theorem hl_RX13_81 : u_lay RX13 TX13 81 ∈ jw := jin (jt_8 _ (List.mem_of_getElem? (i := 81) rfl)) rfl
set_option maxRecDepth 100000 in
theorem hl_RX13_82 : u_lay RX13 TX13 82 ∈ jw := jin (jt_8 _ (List.mem_of_getElem? (i := 83) rfl)) rfl
set_option maxRecDepth 100000 in
theorem hl_RX13_83 : u_lay RX13 TX13 83 ∈ jw := jin (jt_8 _ (List.mem_of_getElem? (i := 85) rfl)) rfl
set_option maxRecDepth 100000 in
theorem hl_RX13_84 : u_lay RX13 TX13 84 ∈ jw := jin (jt_8 _ (List.mem_of_getElem? (i := 87) rfl)) rfl
set_option maxRecDepth 100000 in
theorem hl_RX13_85 : u_lay RX13 TX13 85 ∈ jw := jin (jt_8 _ (List.mem_of_getElem? (i := 89) rfl)) rfl
set_option maxRecDepth 100000 in
theorem hl_RX13_86 : u_lay RX13 TX13 86 ∈ jw := jin (jt_8 _ (List.mem_of_getElem? (i := 91) rfl)) rfl
set_option maxRecDepth 100000 in
theorem hl_RX13_87 : u_lay RX13 TX13 87 ∈ jw := jin (jt_8 _ (List.mem_of_getElem? (i := 93) rfl)) rfl
set_option maxRecDepth 100000 in
theorem hl_RX13_88 : u_lay RX13 TX13 88 ∈ jw := jin (jt_8 _ (List.mem_of_getElem? (i := 95) rfl)) rfl
set_option maxRecDepth 100000 in
theorem hl_RX13_89 : u_lay RX13 TX13 89 ∈ jw := jin (jt_8 _ (List.mem_of_getElem? (i := 97) rfl)) rfl
set_option maxRecDepth 100000 in
theorem hl_RX13_90 : u_lay RX13 TX13 90 ∈ jw := jin (jt_8 _ (List.mem_of_getElem? (i := 99) rfl)) rfl
set_option maxRecDepth 100000 in
theorem hl_RX13_91 : u_lay RX13 TX13 91 ∈ jw := jin (jt_8 _ (List.mem_of_getElem? (i := 101) rfl)) rfl
set_option maxRecDepth 100000 in
theorem hl_RX13_92 : u_lay RX13 TX13 92 ∈ jw := jin (jt_8 _ (List.mem_of_getElem? (i := 103) rfl)) rfl
set_option maxRecDepth 100000 in
theorem hl_RX13_93 : u_lay RX13 TX13 93 ∈ jw := jin (jt_8 _ (List.mem_of_getElem? (i := 105) rfl)) rfl
set_option maxRecDepth 100000 in
theorem hl_RX13_94 : u_lay RX13 TX13 94 ∈ jw := jin (jt_8 _ (List.mem_of_getElem? (i := 107) rfl)) rfl
set_option maxRecDepth 100000 in
theorem hl_RX13_95 : u_lay RX13 TX13 95 ∈ jw := jin (jt_8 _ (List.mem_of_getElem? (i := 109) rfl)) rfl
set_option maxRecDepth 100000 in
theorem hl_RX13_96 : u_lay RX13 TX13 96 ∈ jw := jin (jt_8 _ (List.mem_of_getElem? (i := 111) rfl)) rfl
set_option maxRecDepth 100000 in
theorem hl_RX13_97 : u_lay RX13 TX13 97 ∈ jw := jin (jt_8 _ (List.mem_of_getElem? (i := 113) rfl)) rfl
set_option maxRecDepth 100000 in
theorem hl_RX13_98 : u_lay RX13 TX13 98 ∈ jw := jin (jt_8 _ (List.mem_of_getElem? (i := 115) rfl)) rfl
set_option maxRecDepth 100000 in
theorem hl_RX13_99 : u_lay RX13 TX13 99 ∈ jw := jin (jt_8 _ (List.mem_of_getElem? (i := 117) rfl)) rfl
set_option maxRecDepth 100000 in
theorem hl_RX13_100 : u_lay RX13 TX13 100 ∈ jw := jin (jt_8 _ (List.mem_of_getElem? (i := 119) rfl)) rfl
set_option maxRecDepth 100000 in
theorem hl_RX13_101 : u_lay RX13 TX13 101 ∈ jw := jin (jt_8 _ (List.mem_of_getElem? (i := 121) rfl)) rfl
set_option maxRecDepth 100000 in
theorem hl_RX13_102 : u_lay RX13 TX13 102 ∈ jw := jin (jt_8 _ (List.mem_of_getElem? (i := 123) rfl)) rfl
set_option maxRecDepth 100000 in
theorem hl_RX13_103 : u_lay RX13 TX13 103 ∈ jw := jin (jt_8 _ (List.mem_of_getElem? (i := 125) rfl)) rfl
set_option maxRecDepth 100000 in
theorem hin_RX13 : ∀ w ∈ u_ws RX13 TX13 104, w ∈ jw := by
  intro w h
  obtain ⟨k, hk, rfl⟩ := List.mem_map.mp h
  have hk := List.mem_range.mp hk
  rcases (show k = 0 ∨ k = 1 ∨ k = 2 ∨ k = 3 ∨ k = 4 ∨ k = 5 ∨ k = 6 ∨ k = 7 ∨ k = 8 ∨ k = 9 ∨ k = 10 ∨ k = 11 ∨ k = 12 ∨ k = 13 ∨ k = 14 ∨ k = 15 ∨ k = 16 ∨ k = 17 ∨ k = 18 ∨ k = 19 ∨ k = 20 ∨ k = 21 ∨ k = 22 ∨ k = 23 ∨ k = 24 ∨ k = 25 ∨ k = 26 ∨ k = 27 ∨ k = 28 ∨ k = 29 ∨ k = 30 ∨ k = 31 ∨ k = 32 ∨ k = 33 ∨ k = 34 ∨ k = 35 ∨ k = 36 ∨ k = 37 ∨ k = 38 ∨ k = 39 ∨ k = 40 ∨ k = 41 ∨ k = 42 ∨ k = 43 ∨ k = 44 ∨ k = 45 ∨ k = 46 ∨ k = 47 ∨ k = 48 ∨ k = 49 ∨ k = 50 ∨ k = 51 ∨ k = 52 ∨ k = 53 ∨ k = 54 ∨ k = 55 ∨ k = 56 ∨ k = 57 ∨ k = 58 ∨ k = 59 ∨ k = 60 ∨ k = 61 ∨ k = 62 ∨ k = 63 ∨ k = 64 ∨ k = 65 ∨ k = 66 ∨ k = 67 ∨ k = 68 ∨ k = 69 ∨ k = 70 ∨ k = 71 ∨ k = 72 ∨ k = 73 ∨ k = 74 ∨ k = 75 ∨ k = 76 ∨ k = 77 ∨ k = 78 ∨ k = 79 ∨ k = 80 ∨ k = 81 ∨ k = 82 ∨ k = 83 ∨ k = 84 ∨ k = 85 ∨ k = 86 ∨ k = 87 ∨ k = 88 ∨ k = 89 ∨ k = 90 ∨ k = 91 ∨ k = 92 ∨ k = 93 ∨ k = 94 ∨ k = 95 ∨ k = 96 ∨ k = 97 ∨ k = 98 ∨ k = 99 ∨ k = 100 ∨ k = 101 ∨ k = 102 ∨ k = 103 by omega) with rfl | rfl | rfl | rfl | rfl | rfl | rfl | rfl | rfl | rfl | rfl | rfl | rfl | rfl | rfl | rfl | rfl | rfl | rfl | rfl | rfl | rfl | rfl | rfl | rfl | rfl | rfl | rfl | rfl | rfl | rfl | rfl | rfl | rfl | rfl | rfl | rfl | rfl | rfl | rfl | rfl | rfl | rfl | rfl | rfl | rfl | rfl | rfl | rfl | rfl | rfl | rfl | rfl | rfl | rfl | rfl | rfl | rfl | rfl | rfl | rfl | rfl | rfl | rfl | rfl | rfl | rfl | rfl | rfl | rfl | rfl | rfl | rfl | rfl | rfl | rfl | rfl | rfl | rfl | rfl | rfl | rfl | rfl | rfl | rfl | rfl | rfl | rfl | rfl | rfl | rfl | rfl | rfl | rfl | rfl | rfl | rfl | rfl | rfl | rfl | rfl | rfl | rfl | rfl
  · exact hl_RX13_0
  · exact hl_RX13_1
  · exact hl_RX13_2
  · exact hl_RX13_3
  · exact hl_RX13_4
  · exact hl_RX13_5
  · exact hl_RX13_6
  · exact hl_RX13_7
  · exact hl_RX13_8
  · exact hl_RX13_9
  · exact hl_RX13_10
  · exact hl_RX13_11
  · exact hl_RX13_12
  · exact hl_RX13_13
  · exact hl_RX13_14
  · exact hl_RX13_15
  · exact hl_RX13_16
  · exact hl_RX13_17
  · exact hl_RX13_18
  · exact hl_RX13_19
  · exact hl_RX13_20
  · exact hl_RX13_21
  · exact hl_RX13_22
  · exact hl_RX13_23
  · exact hl_RX13_24
  · exact hl_RX13_25
  · exact hl_RX13_26
  · exact hl_RX13_27
  · exact hl_RX13_28
  · exact hl_RX13_29
  · exact hl_RX13_30
  · exact hl_RX13_31
  · exact hl_RX13_32
  · exact hl_RX13_33
  · exact hl_RX13_34
  · exact hl_RX13_35
  · exact hl_RX13_36
  · exact hl_RX13_37
  · exact hl_RX13_38
  · exact hl_RX13_39
  · exact hl_RX13_40
  · exact hl_RX13_41
  · exact hl_RX13_42
  · exact hl_RX13_43
  · exact hl_RX13_44
  · exact hl_RX13_45
  · exact hl_RX13_46
  · exact hl_RX13_47
  · exact hl_RX13_48
  · exact hl_RX13_49
  · exact hl_RX13_50
  · exact hl_RX13_51
  · exact hl_RX13_52
  · exact hl_RX13_53
  · exact hl_RX13_54
  · exact hl_RX13_55
  · exact hl_RX13_56
  · exact hl_RX13_57
  · exact hl_RX13_58
  · exact hl_RX13_59
  · exact hl_RX13_60
  · exact hl_RX13_61
  · exact hl_RX13_62
  · exact hl_RX13_63
  · exact hl_RX13_64
  · exact hl_RX13_65
  · exact hl_RX13_66
  · exact hl_RX13_67
  · exact hl_RX13_68
  · exact hl_RX13_69
  · exact hl_RX13_70
  · exact hl_RX13_71
  · exact hl_RX13_72
  · exact hl_RX13_73
  · exact hl_RX13_74
  · exact hl_RX13_75
  · exact hl_RX13_76
  · exact hl_RX13_77
  · exact hl_RX13_78
  · exact hl_RX13_79
  · exact hl_RX13_80
  · exact hl_RX13_81
  · exact hl_RX13_82
  · exact hl_RX13_83
  · exact hl_RX13_84
  · exact hl_RX13_85
  · exact hl_RX13_86
  · exact hl_RX13_87
  · exact hl_RX13_88
  · exact hl_RX13_89
  · exact hl_RX13_90
  · exact hl_RX13_91
  · exact hl_RX13_92
  · exact hl_RX13_93
  · exact hl_RX13_94
  · exact hl_RX13_95
  · exact hl_RX13_96
  · exact hl_RX13_97
  · exact hl_RX13_98
  · exact hl_RX13_99
  · exact hl_RX13_100
  · exact hl_RX13_101
  · exact hl_RX13_102
  · exact hl_RX13_103
