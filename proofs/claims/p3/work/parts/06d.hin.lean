set_option maxRecDepth 100000 in
theorem hl_RX0_0 : u_lay RX0 TX0 0 ∈ jw := jin (jt_4 _ (List.mem_of_getElem? (i := 135) rfl)) rfl
set_option maxRecDepth 100000 in
theorem hl_RX0_1 : u_lay RX0 TX0 1 ∈ jw := jin (jt_4 _ (List.mem_of_getElem? (i := 137) rfl)) rfl
set_option maxRecDepth 100000 in
theorem hl_RX0_2 : u_lay RX0 TX0 2 ∈ jw := jin (jt_4 _ (List.mem_of_getElem? (i := 139) rfl)) rfl
set_option maxRecDepth 100000 in
theorem hl_RX0_3 : u_lay RX0 TX0 3 ∈ jw := jin (jt_4 _ (List.mem_of_getElem? (i := 141) rfl)) rfl
set_option maxRecDepth 100000 in
theorem hl_RX0_4 : u_lay RX0 TX0 4 ∈ jw := jin (jt_4 _ (List.mem_of_getElem? (i := 143) rfl)) rfl
set_option maxRecDepth 100000 in
theorem hl_RX0_5 : u_lay RX0 TX0 5 ∈ jw := jin (jt_4 _ (List.mem_of_getElem? (i := 145) rfl)) rfl
set_option maxRecDepth 100000 in
theorem hl_RX0_6 : u_lay RX0 TX0 6 ∈ jw := jin (jt_4 _ (List.mem_of_getElem? (i := 147) rfl)) rfl
set_option maxRecDepth 100000 in
theorem hl_RX0_7 : u_lay RX0 TX0 7 ∈ jw := jin (jt_4 _ (List.mem_of_getElem? (i := 149) rfl)) rfl
set_option maxRecDepth 100000 in
theorem hl_RX0_8 : u_lay RX0 TX0 8 ∈ jw := jin (jt_4 _ (List.mem_of_getElem? (i := 151) rfl)) rfl
set_option maxRecDepth 100000 in
theorem hl_RX0_9 : u_lay RX0 TX0 9 ∈ jw := jin (jt_4 _ (List.mem_of_getElem? (i := 153) rfl)) rfl
set_option maxRecDepth 100000 in
theorem hl_RX0_10 : u_lay RX0 TX0 10 ∈ jw := jin (jt_4 _ (List.mem_of_getElem? (i := 155) rfl)) rfl
set_option maxRecDepth 100000 in
theorem hl_RX0_11 : u_lay RX0 TX0 11 ∈ jw := jin (jt_4 _ (List.mem_of_getElem? (i := 157) rfl)) rfl
set_option maxRecDepth 100000 in
theorem hl_RX0_12 : u_lay RX0 TX0 12 ∈ jw := jin (jt_4 _ (List.mem_of_getElem? (i := 159) rfl)) rfl
set_option maxRecDepth 100000 in
theorem hl_RX0_13 : u_lay RX0 TX0 13 ∈ jw := jin (jt_4 _ (List.mem_of_getElem? (i := 161) rfl)) rfl
set_option maxRecDepth 100000 in
theorem hl_RX0_14 : u_lay RX0 TX0 14 ∈ jw := jin (jt_4 _ (List.mem_of_getElem? (i := 163) rfl)) rfl
set_option maxRecDepth 100000 in
theorem hl_RX0_15 : u_lay RX0 TX0 15 ∈ jw := jin (jt_4 _ (List.mem_of_getElem? (i := 165) rfl)) rfl
set_option maxRecDepth 100000 in
theorem hl_RX0_16 : u_lay RX0 TX0 16 ∈ jw := jin (jt_4 _ (List.mem_of_getElem? (i := 167) rfl)) rfl
set_option maxRecDepth 100000 in
theorem hl_RX0_17 : u_lay RX0 TX0 17 ∈ jw := jin (jt_4 _ (List.mem_of_getElem? (i := 169) rfl)) rfl
set_option maxRecDepth 100000 in
theorem hin_RX0 : ∀ w ∈ u_ws RX0 TX0 18, w ∈ jw := by
  intro w h
  obtain ⟨k, hk, rfl⟩ := List.mem_map.mp h
  have hk := List.mem_range.mp hk
  rcases (show k = 0 ∨ k = 1 ∨ k = 2 ∨ k = 3 ∨ k = 4 ∨ k = 5 ∨ k = 6 ∨ k = 7 ∨ k = 8 ∨ k = 9 ∨ k = 10 ∨ k = 11 ∨ k = 12 ∨ k = 13 ∨ k = 14 ∨ k = 15 ∨ k = 16 ∨ k = 17 by omega) with rfl | rfl | rfl | rfl | rfl | rfl | rfl | rfl | rfl | rfl | rfl | rfl | rfl | rfl | rfl | rfl | rfl | rfl
  · exact hl_RX0_0
  · exact hl_RX0_1
  · exact hl_RX0_2
  · exact hl_RX0_3
  · exact hl_RX0_4
  · exact hl_RX0_5
  · exact hl_RX0_6
  · exact hl_RX0_7
  · exact hl_RX0_8
  · exact hl_RX0_9
  · exact hl_RX0_10
  · exact hl_RX0_11
  · exact hl_RX0_12
  · exact hl_RX0_13
  · exact hl_RX0_14
  · exact hl_RX0_15
  · exact hl_RX0_16
  · exact hl_RX0_17
set_option maxRecDepth 100000 in
theorem hl_RX1_0 : u_lay RX1 TX1 0 ∈ jw := jin (jt_2 _ (List.mem_of_getElem? (i := 47) rfl)) rfl
set_option maxRecDepth 100000 in
theorem hl_RX1_1 : u_lay RX1 TX1 1 ∈ jw := jin (jt_2 _ (List.mem_of_getElem? (i := 49) rfl)) rfl
set_option maxRecDepth 100000 in
theorem hl_RX1_2 : u_lay RX1 TX1 2 ∈ jw := jin (jt_2 _ (List.mem_of_getElem? (i := 51) rfl)) rfl
set_option maxRecDepth 100000 in
theorem hl_RX1_3 : u_lay RX1 TX1 3 ∈ jw := jin (jt_2 _ (List.mem_of_getElem? (i := 53) rfl)) rfl
set_option maxRecDepth 100000 in
theorem hl_RX1_4 : u_lay RX1 TX1 4 ∈ jw := jin (jt_2 _ (List.mem_of_getElem? (i := 55) rfl)) rfl
set_option maxRecDepth 100000 in
theorem hl_RX1_5 : u_lay RX1 TX1 5 ∈ jw := jin (jt_2 _ (List.mem_of_getElem? (i := 57) rfl)) rfl
set_option maxRecDepth 100000 in
theorem hl_RX1_6 : u_lay RX1 TX1 6 ∈ jw := jin (jt_2 _ (List.mem_of_getElem? (i := 59) rfl)) rfl
set_option maxRecDepth 100000 in
theorem hl_RX1_7 : u_lay RX1 TX1 7 ∈ jw := jin (jt_2 _ (List.mem_of_getElem? (i := 61) rfl)) rfl
set_option maxRecDepth 100000 in
theorem hl_RX1_8 : u_lay RX1 TX1 8 ∈ jw := jin (jt_2 _ (List.mem_of_getElem? (i := 63) rfl)) rfl
set_option maxRecDepth 100000 in
theorem hl_RX1_9 : u_lay RX1 TX1 9 ∈ jw := jin (jt_2 _ (List.mem_of_getElem? (i := 65) rfl)) rfl
set_option maxRecDepth 100000 in
theorem hin_RX1 : ∀ w ∈ u_ws RX1 TX1 10, w ∈ jw := by
  intro w h
  obtain ⟨k, hk, rfl⟩ := List.mem_map.mp h
  have hk := List.mem_range.mp hk
  rcases (show k = 0 ∨ k = 1 ∨ k = 2 ∨ k = 3 ∨ k = 4 ∨ k = 5 ∨ k = 6 ∨ k = 7 ∨ k = 8 ∨ k = 9 by omega) with rfl | rfl | rfl | rfl | rfl | rfl | rfl | rfl | rfl | rfl
  · exact hl_RX1_0
  · exact hl_RX1_1
  · exact hl_RX1_2
  · exact hl_RX1_3
  · exact hl_RX1_4
  · exact hl_RX1_5
  · exact hl_RX1_6
  · exact hl_RX1_7
  · exact hl_RX1_8
  · exact hl_RX1_9
set_option maxRecDepth 100000 in
theorem hl_RX10_0 : u_lay RX10 TX10 0 ∈ jw := jin (jt_2 _ (List.mem_of_getElem? (i := 78) rfl)) rfl
set_option maxRecDepth 100000 in
theorem hl_RX10_1 : u_lay RX10 TX10 1 ∈ jw := jin (jt_2 _ (List.mem_of_getElem? (i := 80) rfl)) rfl
set_option maxRecDepth 100000 in
theorem hl_RX10_2 : u_lay RX10 TX10 2 ∈ jw := jin (jt_2 _ (List.mem_of_getElem? (i := 82) rfl)) rfl
set_option maxRecDepth 100000 in
theorem hin_RX10 : ∀ w ∈ u_ws RX10 TX10 3, w ∈ jw := by
  intro w h
  obtain ⟨k, hk, rfl⟩ := List.mem_map.mp h
  have hk := List.mem_range.mp hk
  rcases (show k = 0 ∨ k = 1 ∨ k = 2 by omega) with rfl | rfl | rfl
  · exact hl_RX10_0
  · exact hl_RX10_1
  · exact hl_RX10_2
set_option maxRecDepth 100000 in
theorem hl_RX11_0 : u_lay RX11 TX11 0 ∈ jw := jin (jt_1 _ (List.mem_of_getElem? (i := 171) rfl)) rfl
set_option maxRecDepth 100000 in
theorem hl_RX11_1 : u_lay RX11 TX11 1 ∈ jw := jin (jt_1 _ (List.mem_of_getElem? (i := 173) rfl)) rfl
set_option maxRecDepth 100000 in
theorem hl_RX11_2 : u_lay RX11 TX11 2 ∈ jw := jin (jt_1 _ (List.mem_of_getElem? (i := 175) rfl)) rfl
set_option maxRecDepth 100000 in
theorem hl_RX11_3 : u_lay RX11 TX11 3 ∈ jw := jin (jt_1 _ (List.mem_of_getElem? (i := 177) rfl)) rfl
set_option maxRecDepth 100000 in
theorem hl_RX11_4 : u_lay RX11 TX11 4 ∈ jw := jin (jt_1 _ (List.mem_of_getElem? (i := 179) rfl)) rfl
set_option maxRecDepth 100000 in
theorem hl_RX11_5 : u_lay RX11 TX11 5 ∈ jw := jin (jt_1 _ (List.mem_of_getElem? (i := 181) rfl)) rfl
set_option maxRecDepth 100000 in
theorem hl_RX11_6 : u_lay RX11 TX11 6 ∈ jw := jin (jt_1 _ (List.mem_of_getElem? (i := 183) rfl)) rfl
set_option maxRecDepth 100000 in
theorem hin_RX11 : ∀ w ∈ u_ws RX11 TX11 7, w ∈ jw := by
  intro w h
  obtain ⟨k, hk, rfl⟩ := List.mem_map.mp h
  have hk := List.mem_range.mp hk
  rcases (show k = 0 ∨ k = 1 ∨ k = 2 ∨ k = 3 ∨ k = 4 ∨ k = 5 ∨ k = 6 by omega) with rfl | rfl | rfl | rfl | rfl | rfl | rfl
  · exact hl_RX11_0
  · exact hl_RX11_1
  · exact hl_RX11_2
  · exact hl_RX11_3
  · exact hl_RX11_4
  · exact hl_RX11_5
  · exact hl_RX11_6
set_option maxRecDepth 100000 in
theorem hl_RX12_0 : u_lay RX12 TX12 0 ∈ jw := jin (jt_2 _ (List.mem_of_getElem? (i := 105) rfl)) rfl
set_option maxRecDepth 100000 in
theorem hl_RX12_1 : u_lay RX12 TX12 1 ∈ jw := jin (jt_2 _ (List.mem_of_getElem? (i := 107) rfl)) rfl
set_option maxRecDepth 100000 in
theorem hl_RX12_2 : u_lay RX12 TX12 2 ∈ jw := jin (jt_2 _ (List.mem_of_getElem? (i := 109) rfl)) rfl
set_option maxRecDepth 100000 in
theorem hl_RX12_3 : u_lay RX12 TX12 3 ∈ jw := jin (jt_2 _ (List.mem_of_getElem? (i := 111) rfl)) rfl
set_option maxRecDepth 100000 in
theorem hl_RX12_4 : u_lay RX12 TX12 4 ∈ jw := jin (jt_2 _ (List.mem_of_getElem? (i := 113) rfl)) rfl
set_option maxRecDepth 100000 in
theorem hl_RX12_5 : u_lay RX12 TX12 5 ∈ jw := jin (jt_2 _ (List.mem_of_getElem? (i := 115) rfl)) rfl
set_option maxRecDepth 100000 in
theorem hl_RX12_6 : u_lay RX12 TX12 6 ∈ jw := jin (jt_2 _ (List.mem_of_getElem? (i := 117) rfl)) rfl
set_option maxRecDepth 100000 in
theorem hl_RX12_7 : u_lay RX12 TX12 7 ∈ jw := jin (jt_2 _ (List.mem_of_getElem? (i := 119) rfl)) rfl
set_option maxRecDepth 100000 in
theorem hl_RX12_8 : u_lay RX12 TX12 8 ∈ jw := jin (jt_2 _ (List.mem_of_getElem? (i := 121) rfl)) rfl
set_option maxRecDepth 100000 in
theorem hl_RX12_9 : u_lay RX12 TX12 9 ∈ jw := jin (jt_2 _ (List.mem_of_getElem? (i := 123) rfl)) rfl
set_option maxRecDepth 100000 in
theorem hl_RX12_10 : u_lay RX12 TX12 10 ∈ jw := jin (jt_2 _ (List.mem_of_getElem? (i := 125) rfl)) rfl
set_option maxRecDepth 100000 in
theorem hl_RX12_11 : u_lay RX12 TX12 11 ∈ jw := jin (jt_2 _ (List.mem_of_getElem? (i := 127) rfl)) rfl
set_option maxRecDepth 100000 in
theorem hl_RX12_12 : u_lay RX12 TX12 12 ∈ jw := jin (jt_2 _ (List.mem_of_getElem? (i := 129) rfl)) rfl
set_option maxRecDepth 100000 in
theorem hl_RX12_13 : u_lay RX12 TX12 13 ∈ jw := jin (jt_2 _ (List.mem_of_getElem? (i := 131) rfl)) rfl
set_option maxRecDepth 100000 in
theorem hl_RX12_14 : u_lay RX12 TX12 14 ∈ jw := jin (jt_2 _ (List.mem_of_getElem? (i := 133) rfl)) rfl
set_option maxRecDepth 100000 in
theorem hl_RX12_15 : u_lay RX12 TX12 15 ∈ jw := jin (jt_2 _ (List.mem_of_getElem? (i := 135) rfl)) rfl
set_option maxRecDepth 100000 in
theorem hl_RX12_16 : u_lay RX12 TX12 16 ∈ jw := jin (jt_2 _ (List.mem_of_getElem? (i := 137) rfl)) rfl
set_option maxRecDepth 100000 in
theorem hl_RX12_17 : u_lay RX12 TX12 17 ∈ jw := jin (jt_2 _ (List.mem_of_getElem? (i := 139) rfl)) rfl
set_option maxRecDepth 100000 in
theorem hl_RX12_18 : u_lay RX12 TX12 18 ∈ jw := jin (jt_2 _ (List.mem_of_getElem? (i := 141) rfl)) rfl
set_option maxRecDepth 100000 in
theorem hl_RX12_19 : u_lay RX12 TX12 19 ∈ jw := jin (jt_2 _ (List.mem_of_getElem? (i := 143) rfl)) rfl
set_option maxRecDepth 100000 in
theorem hin_RX12 : ∀ w ∈ u_ws RX12 TX12 20, w ∈ jw := by
  intro w h
  obtain ⟨k, hk, rfl⟩ := List.mem_map.mp h
  have hk := List.mem_range.mp hk
  rcases (show k = 0 ∨ k = 1 ∨ k = 2 ∨ k = 3 ∨ k = 4 ∨ k = 5 ∨ k = 6 ∨ k = 7 ∨ k = 8 ∨ k = 9 ∨ k = 10 ∨ k = 11 ∨ k = 12 ∨ k = 13 ∨ k = 14 ∨ k = 15 ∨ k = 16 ∨ k = 17 ∨ k = 18 ∨ k = 19 by omega) with rfl | rfl | rfl | rfl | rfl | rfl | rfl | rfl | rfl | rfl | rfl | rfl | rfl | rfl | rfl | rfl | rfl | rfl | rfl | rfl
  · exact hl_RX12_0
  · exact hl_RX12_1
  · exact hl_RX12_2
  · exact hl_RX12_3
  · exact hl_RX12_4
  · exact hl_RX12_5
  · exact hl_RX12_6
  · exact hl_RX12_7
  · exact hl_RX12_8
  · exact hl_RX12_9
  · exact hl_RX12_10
  · exact hl_RX12_11
  · exact hl_RX12_12
  · exact hl_RX12_13
  · exact hl_RX12_14
  · exact hl_RX12_15
  · exact hl_RX12_16
  · exact hl_RX12_17
  · exact hl_RX12_18
  · exact hl_RX12_19
set_option maxRecDepth 100000 in
theorem hl_RX13_0 : u_lay RX13 TX13 0 ∈ jw := jin (jt_7 _ (List.mem_of_getElem? (i := 159) rfl)) rfl
set_option maxRecDepth 100000 in
theorem hl_RX13_1 : u_lay RX13 TX13 1 ∈ jw := jin (jt_7 _ (List.mem_of_getElem? (i := 161) rfl)) rfl
set_option maxRecDepth 100000 in
theorem hl_RX13_2 : u_lay RX13 TX13 2 ∈ jw := jin (jt_7 _ (List.mem_of_getElem? (i := 163) rfl)) rfl
set_option maxRecDepth 100000 in
theorem hl_RX13_3 : u_lay RX13 TX13 3 ∈ jw := jin (jt_7 _ (List.mem_of_getElem? (i := 165) rfl)) rfl
set_option maxRecDepth 100000 in
theorem hl_RX13_4 : u_lay RX13 TX13 4 ∈ jw := jin (jt_7 _ (List.mem_of_getElem? (i := 167) rfl)) rfl
set_option maxRecDepth 100000 in
theorem hl_RX13_5 : u_lay RX13 TX13 5 ∈ jw := jin (jt_7 _ (List.mem_of_getElem? (i := 169) rfl)) rfl
set_option maxRecDepth 100000 in
theorem hl_RX13_6 : u_lay RX13 TX13 6 ∈ jw := jin (jt_7 _ (List.mem_of_getElem? (i := 171) rfl)) rfl
set_option maxRecDepth 100000 in
theorem hl_RX13_7 : u_lay RX13 TX13 7 ∈ jw := jin (jt_7 _ (List.mem_of_getElem? (i := 173) rfl)) rfl
set_option maxRecDepth 100000 in
theorem hl_RX13_8 : u_lay RX13 TX13 8 ∈ jw := jin (jt_7 _ (List.mem_of_getElem? (i := 175) rfl)) rfl
set_option maxRecDepth 100000 in
theorem hl_RX13_9 : u_lay RX13 TX13 9 ∈ jw := jin (jt_7 _ (List.mem_of_getElem? (i := 177) rfl)) rfl
set_option maxRecDepth 100000 in
theorem hl_RX13_10 : u_lay RX13 TX13 10 ∈ jw := jin (jt_7 _ (List.mem_of_getElem? (i := 179) rfl)) rfl
set_option maxRecDepth 100000 in
theorem hl_RX13_11 : u_lay RX13 TX13 11 ∈ jw := jin (jt_7 _ (List.mem_of_getElem? (i := 181) rfl)) rfl
set_option maxRecDepth 100000 in
theorem hl_RX13_12 : u_lay RX13 TX13 12 ∈ jw := jin (jt_7 _ (List.mem_of_getElem? (i := 183) rfl)) rfl
set_option maxRecDepth 100000 in
theorem hl_RX13_13 : u_lay RX13 TX13 13 ∈ jw := jin (jt_7 _ (List.mem_of_getElem? (i := 185) rfl)) rfl
set_option maxRecDepth 100000 in
theorem hl_RX13_14 : u_lay RX13 TX13 14 ∈ jw := jin (jt_7 _ (List.mem_of_getElem? (i := 187) rfl)) rfl
set_option maxRecDepth 100000 in
theorem hl_RX13_15 : u_lay RX13 TX13 15 ∈ jw := jin (jt_7 _ (List.mem_of_getElem? (i := 189) rfl)) rfl
set_option maxRecDepth 100000 in
theorem hl_RX13_16 : u_lay RX13 TX13 16 ∈ jw := jin (jt_7 _ (List.mem_of_getElem? (i := 191) rfl)) rfl
set_option maxRecDepth 100000 in
theorem hl_RX13_17 : u_lay RX13 TX13 17 ∈ jw := jin (jt_7 _ (List.mem_of_getElem? (i := 193) rfl)) rfl
set_option maxRecDepth 100000 in
theorem hl_RX13_18 : u_lay RX13 TX13 18 ∈ jw := jin (jt_7 _ (List.mem_of_getElem? (i := 195) rfl)) rfl
set_option maxRecDepth 100000 in
theorem hl_RX13_19 : u_lay RX13 TX13 19 ∈ jw := jin (jt_7 _ (List.mem_of_getElem? (i := 197) rfl)) rfl
set_option maxRecDepth 100000 in
theorem hl_RX13_20 : u_lay RX13 TX13 20 ∈ jw := jin (jt_7 _ (List.mem_of_getElem? (i := 199) rfl)) rfl
set_option maxRecDepth 100000 in
theorem hl_RX13_21 : u_lay RX13 TX13 21 ∈ jw := jin (jt_7 _ (List.mem_of_getElem? (i := 201) rfl)) rfl
set_option maxRecDepth 100000 in
theorem hl_RX13_22 : u_lay RX13 TX13 22 ∈ jw := jin (jt_7 _ (List.mem_of_getElem? (i := 203) rfl)) rfl
set_option maxRecDepth 100000 in
theorem hl_RX13_23 : u_lay RX13 TX13 23 ∈ jw := jin (jt_7 _ (List.mem_of_getElem? (i := 205) rfl)) rfl
set_option maxRecDepth 100000 in
theorem hl_RX13_24 : u_lay RX13 TX13 24 ∈ jw := jin (jt_7 _ (List.mem_of_getElem? (i := 207) rfl)) rfl
set_option maxRecDepth 100000 in
theorem hl_RX13_25 : u_lay RX13 TX13 25 ∈ jw := jin (jt_7 _ (List.mem_of_getElem? (i := 209) rfl)) rfl
set_option maxRecDepth 100000 in
theorem hl_RX13_26 : u_lay RX13 TX13 26 ∈ jw := jin (jt_7 _ (List.mem_of_getElem? (i := 211) rfl)) rfl
set_option maxRecDepth 100000 in
theorem hl_RX13_27 : u_lay RX13 TX13 27 ∈ jw := jin (jt_7 _ (List.mem_of_getElem? (i := 213) rfl)) rfl
set_option maxRecDepth 100000 in
theorem hl_RX13_28 : u_lay RX13 TX13 28 ∈ jw := jin (jt_7 _ (List.mem_of_getElem? (i := 215) rfl)) rfl
set_option maxRecDepth 100000 in
theorem hl_RX13_29 : u_lay RX13 TX13 29 ∈ jw := jin (jt_7 _ (List.mem_of_getElem? (i := 217) rfl)) rfl
set_option maxRecDepth 100000 in
theorem hl_RX13_30 : u_lay RX13 TX13 30 ∈ jw := jin (jt_7 _ (List.mem_of_getElem? (i := 219) rfl)) rfl
set_option maxRecDepth 100000 in
theorem hl_RX13_31 : u_lay RX13 TX13 31 ∈ jw := jin (jt_7 _ (List.mem_of_getElem? (i := 221) rfl)) rfl
set_option maxRecDepth 100000 in
theorem hl_RX13_32 : u_lay RX13 TX13 32 ∈ jw := jin (jt_7 _ (List.mem_of_getElem? (i := 223) rfl)) rfl
set_option maxRecDepth 100000 in
theorem hl_RX13_33 : u_lay RX13 TX13 33 ∈ jw := jin (jt_7 _ (List.mem_of_getElem? (i := 225) rfl)) rfl
set_option maxRecDepth 100000 in
theorem hl_RX13_34 : u_lay RX13 TX13 34 ∈ jw := jin (jt_7 _ (List.mem_of_getElem? (i := 227) rfl)) rfl
set_option maxRecDepth 100000 in
theorem hl_RX13_35 : u_lay RX13 TX13 35 ∈ jw := jin (jt_7 _ (List.mem_of_getElem? (i := 229) rfl)) rfl
set_option maxRecDepth 100000 in
theorem hl_RX13_36 : u_lay RX13 TX13 36 ∈ jw := jin (jt_7 _ (List.mem_of_getElem? (i := 231) rfl)) rfl
set_option maxRecDepth 100000 in
theorem hl_RX13_37 : u_lay RX13 TX13 37 ∈ jw := jin (jt_7 _ (List.mem_of_getElem? (i := 233) rfl)) rfl
set_option maxRecDepth 100000 in
theorem hl_RX13_38 : u_lay RX13 TX13 38 ∈ jw := jin (jt_7 _ (List.mem_of_getElem? (i := 235) rfl)) rfl
set_option maxRecDepth 100000 in
theorem hl_RX13_39 : u_lay RX13 TX13 39 ∈ jw := jin (jt_7 _ (List.mem_of_getElem? (i := 237) rfl)) rfl
set_option maxRecDepth 100000 in
theorem hl_RX13_40 : u_lay RX13 TX13 40 ∈ jw := jin (jt_7 _ (List.mem_of_getElem? (i := 239) rfl)) rfl
set_option maxRecDepth 100000 in
theorem hl_RX13_41 : u_lay RX13 TX13 41 ∈ jw := jin (jt_8 _ (List.mem_of_getElem? (i := 1) rfl)) rfl
set_option maxRecDepth 100000 in
theorem hl_RX13_42 : u_lay RX13 TX13 42 ∈ jw := jin (jt_8 _ (List.mem_of_getElem? (i := 3) rfl)) rfl
set_option maxRecDepth 100000 in
theorem hl_RX13_43 : u_lay RX13 TX13 43 ∈ jw := jin (jt_8 _ (List.mem_of_getElem? (i := 5) rfl)) rfl
set_option maxRecDepth 100000 in
theorem hl_RX13_44 : u_lay RX13 TX13 44 ∈ jw := jin (jt_8 _ (List.mem_of_getElem? (i := 7) rfl)) rfl
set_option maxRecDepth 100000 in
theorem hl_RX13_45 : u_lay RX13 TX13 45 ∈ jw := jin (jt_8 _ (List.mem_of_getElem? (i := 9) rfl)) rfl
set_option maxRecDepth 100000 in
theorem hl_RX13_46 : u_lay RX13 TX13 46 ∈ jw := jin (jt_8 _ (List.mem_of_getElem? (i := 11) rfl)) rfl
set_option maxRecDepth 100000 in
theorem hl_RX13_47 : u_lay RX13 TX13 47 ∈ jw := jin (jt_8 _ (List.mem_of_getElem? (i := 13) rfl)) rfl
set_option maxRecDepth 100000 in
theorem hl_RX13_48 : u_lay RX13 TX13 48 ∈ jw := jin (jt_8 _ (List.mem_of_getElem? (i := 15) rfl)) rfl
set_option maxRecDepth 100000 in
theorem hl_RX13_49 : u_lay RX13 TX13 49 ∈ jw := jin (jt_8 _ (List.mem_of_getElem? (i := 17) rfl)) rfl
set_option maxRecDepth 100000 in
theorem hl_RX13_50 : u_lay RX13 TX13 50 ∈ jw := jin (jt_8 _ (List.mem_of_getElem? (i := 19) rfl)) rfl
set_option maxRecDepth 100000 in
theorem hl_RX13_51 : u_lay RX13 TX13 51 ∈ jw := jin (jt_8 _ (List.mem_of_getElem? (i := 21) rfl)) rfl
set_option maxRecDepth 100000 in
theorem hl_RX13_52 : u_lay RX13 TX13 52 ∈ jw := jin (jt_8 _ (List.mem_of_getElem? (i := 23) rfl)) rfl
set_option maxRecDepth 100000 in
theorem hl_RX13_53 : u_lay RX13 TX13 53 ∈ jw := jin (jt_8 _ (List.mem_of_getElem? (i := 25) rfl)) rfl
set_option maxRecDepth 100000 in
theorem hl_RX13_54 : u_lay RX13 TX13 54 ∈ jw := jin (jt_8 _ (List.mem_of_getElem? (i := 27) rfl)) rfl
set_option maxRecDepth 100000 in
theorem hl_RX13_55 : u_lay RX13 TX13 55 ∈ jw := jin (jt_8 _ (List.mem_of_getElem? (i := 29) rfl)) rfl
set_option maxRecDepth 100000 in
theorem hl_RX13_56 : u_lay RX13 TX13 56 ∈ jw := jin (jt_8 _ (List.mem_of_getElem? (i := 31) rfl)) rfl
set_option maxRecDepth 100000 in
theorem hl_RX13_57 : u_lay RX13 TX13 57 ∈ jw := jin (jt_8 _ (List.mem_of_getElem? (i := 33) rfl)) rfl
set_option maxRecDepth 100000 in
theorem hl_RX13_58 : u_lay RX13 TX13 58 ∈ jw := jin (jt_8 _ (List.mem_of_getElem? (i := 35) rfl)) rfl
set_option maxRecDepth 100000 in
theorem hl_RX13_59 : u_lay RX13 TX13 59 ∈ jw := jin (jt_8 _ (List.mem_of_getElem? (i := 37) rfl)) rfl
set_option maxRecDepth 100000 in
theorem hl_RX13_60 : u_lay RX13 TX13 60 ∈ jw := jin (jt_8 _ (List.mem_of_getElem? (i := 39) rfl)) rfl
set_option maxRecDepth 100000 in
theorem hl_RX13_61 : u_lay RX13 TX13 61 ∈ jw := jin (jt_8 _ (List.mem_of_getElem? (i := 41) rfl)) rfl
set_option maxRecDepth 100000 in
theorem hl_RX13_62 : u_lay RX13 TX13 62 ∈ jw := jin (jt_8 _ (List.mem_of_getElem? (i := 43) rfl)) rfl
set_option maxRecDepth 100000 in
theorem hl_RX13_63 : u_lay RX13 TX13 63 ∈ jw := jin (jt_8 _ (List.mem_of_getElem? (i := 45) rfl)) rfl
set_option maxRecDepth 100000 in
theorem hl_RX13_64 : u_lay RX13 TX13 64 ∈ jw := jin (jt_8 _ (List.mem_of_getElem? (i := 47) rfl)) rfl
set_option maxRecDepth 100000 in
theorem hl_RX13_65 : u_lay RX13 TX13 65 ∈ jw := jin (jt_8 _ (List.mem_of_getElem? (i := 49) rfl)) rfl
set_option maxRecDepth 100000 in
theorem hl_RX13_66 : u_lay RX13 TX13 66 ∈ jw := jin (jt_8 _ (List.mem_of_getElem? (i := 51) rfl)) rfl
set_option maxRecDepth 100000 in
theorem hl_RX13_67 : u_lay RX13 TX13 67 ∈ jw := jin (jt_8 _ (List.mem_of_getElem? (i := 53) rfl)) rfl
set_option maxRecDepth 100000 in
theorem hl_RX13_68 : u_lay RX13 TX13 68 ∈ jw := jin (jt_8 _ (List.mem_of_getElem? (i := 55) rfl)) rfl
set_option maxRecDepth 100000 in
theorem hl_RX13_69 : u_lay RX13 TX13 69 ∈ jw := jin (jt_8 _ (List.mem_of_getElem? (i := 57) rfl)) rfl
set_option maxRecDepth 100000 in
theorem hl_RX13_70 : u_lay RX13 TX13 70 ∈ jw := jin (jt_8 _ (List.mem_of_getElem? (i := 59) rfl)) rfl
set_option maxRecDepth 100000 in
theorem hl_RX13_71 : u_lay RX13 TX13 71 ∈ jw := jin (jt_8 _ (List.mem_of_getElem? (i := 61) rfl)) rfl
set_option maxRecDepth 100000 in
theorem hl_RX13_72 : u_lay RX13 TX13 72 ∈ jw := jin (jt_8 _ (List.mem_of_getElem? (i := 63) rfl)) rfl
set_option maxRecDepth 100000 in
theorem hl_RX13_73 : u_lay RX13 TX13 73 ∈ jw := jin (jt_8 _ (List.mem_of_getElem? (i := 65) rfl)) rfl
set_option maxRecDepth 100000 in
theorem hl_RX13_74 : u_lay RX13 TX13 74 ∈ jw := jin (jt_8 _ (List.mem_of_getElem? (i := 67) rfl)) rfl
set_option maxRecDepth 100000 in
theorem hl_RX13_75 : u_lay RX13 TX13 75 ∈ jw := jin (jt_8 _ (List.mem_of_getElem? (i := 69) rfl)) rfl
set_option maxRecDepth 100000 in
theorem hl_RX13_76 : u_lay RX13 TX13 76 ∈ jw := jin (jt_8 _ (List.mem_of_getElem? (i := 71) rfl)) rfl
set_option maxRecDepth 100000 in
theorem hl_RX13_77 : u_lay RX13 TX13 77 ∈ jw := jin (jt_8 _ (List.mem_of_getElem? (i := 73) rfl)) rfl
set_option maxRecDepth 100000 in
theorem hl_RX13_78 : u_lay RX13 TX13 78 ∈ jw := jin (jt_8 _ (List.mem_of_getElem? (i := 75) rfl)) rfl
set_option maxRecDepth 100000 in
theorem hl_RX13_79 : u_lay RX13 TX13 79 ∈ jw := jin (jt_8 _ (List.mem_of_getElem? (i := 77) rfl)) rfl
set_option maxRecDepth 100000 in
theorem hl_RX13_80 : u_lay RX13 TX13 80 ∈ jw := jin (jt_8 _ (List.mem_of_getElem? (i := 79) rfl)) rfl
set_option maxRecDepth 100000 in
theorem hl_RX13_81 : u_lay RX13 TX13 81 ∈ jw := jin (jt_8 _ (List.mem_of_getElem? (i := 81) rfl)) rfl
set_option maxRecDepth 100000 in
theorem hl_RX13_82 : u_lay RX13 TX13 82 ∈ jw := jin (jt_8 _ (List.mem_of_getElem? (i := 83) rfl)) rfl
set_option maxRecDepth 100000 in
theorem hl_RX13_83 : u_lay RX13 TX13 83 ∈ jw := jin (jt_8 _ (List.mem_of_getElem? (i := 85) rfl)) rfl
set_option maxRecDepth 100000 in
theorem hl_RX13_84 : u_lay RX13 TX13 84 ∈ jw := jin (jt_8 _ (List.mem_of_getElem? (i := 87) rfl)) rfl
set_option maxRecDepth 100000 in
theorem hl_RX13_85 : u_lay RX13 TX13 85 ∈ jw := jin (jt_8 _ (List.mem_of_getElem? (i := 89) rfl)) rfl
set_option maxRecDepth 100000 in
theorem hl_RX13_86 : u_lay RX13 TX13 86 ∈ jw := jin (jt_8 _ (List.mem_of_getElem? (i := 91) rfl)) rfl
set_option maxRecDepth 100000 in
theorem hl_RX13_87 : u_lay RX13 TX13 87 ∈ jw := jin (jt_8 _ (List.mem_of_getElem? (i := 93) rfl)) rfl
set_option maxRecDepth 100000 in
theorem hl_RX13_88 : u_lay RX13 TX13 88 ∈ jw := jin (jt_8 _ (List.mem_of_getElem? (i := 95) rfl)) rfl
set_option maxRecDepth 100000 in
theorem hl_RX13_89 : u_lay RX13 TX13 89 ∈ jw := jin (jt_8 _ (List.mem_of_getElem? (i := 97) rfl)) rfl
set_option maxRecDepth 100000 in
theorem hl_RX13_90 : u_lay RX13 TX13 90 ∈ jw := jin (jt_8 _ (List.mem_of_getElem? (i := 99) rfl)) rfl
set_option maxRecDepth 100000 in
theorem hl_RX13_91 : u_lay RX13 TX13 91 ∈ jw := jin (jt_8 _ (List.mem_of_getElem? (i := 101) rfl)) rfl
set_option maxRecDepth 100000 in
theorem hl_RX13_92 : u_lay RX13 TX13 92 ∈ jw := jin (jt_8 _ (List.mem_of_getElem? (i := 103) rfl)) rfl
set_option maxRecDepth 100000 in
theorem hl_RX13_93 : u_lay RX13 TX13 93 ∈ jw := jin (jt_8 _ (List.mem_of_getElem? (i := 105) rfl)) rfl
set_option maxRecDepth 100000 in
theorem hl_RX13_94 : u_lay RX13 TX13 94 ∈ jw := jin (jt_8 _ (List.mem_of_getElem? (i := 107) rfl)) rfl
set_option maxRecDepth 100000 in
theorem hl_RX13_95 : u_lay RX13 TX13 95 ∈ jw := jin (jt_8 _ (List.mem_of_getElem? (i := 109) rfl)) rfl
set_option maxRecDepth 100000 in
theorem hl_RX13_96 : u_lay RX13 TX13 96 ∈ jw := jin (jt_8 _ (List.mem_of_getElem? (i := 111) rfl)) rfl
set_option maxRecDepth 100000 in
theorem hl_RX13_97 : u_lay RX13 TX13 97 ∈ jw := jin (jt_8 _ (List.mem_of_getElem? (i := 113) rfl)) rfl
set_option maxRecDepth 100000 in
theorem hl_RX13_98 : u_lay RX13 TX13 98 ∈ jw := jin (jt_8 _ (List.mem_of_getElem? (i := 115) rfl)) rfl
set_option maxRecDepth 100000 in
theorem hl_RX13_99 : u_lay RX13 TX13 99 ∈ jw := jin (jt_8 _ (List.mem_of_getElem? (i := 117) rfl)) rfl
set_option maxRecDepth 100000 in
theorem hl_RX13_100 : u_lay RX13 TX13 100 ∈ jw := jin (jt_8 _ (List.mem_of_getElem? (i := 119) rfl)) rfl
set_option maxRecDepth 100000 in
theorem hl_RX13_101 : u_lay RX13 TX13 101 ∈ jw := jin (jt_8 _ (List.mem_of_getElem? (i := 121) rfl)) rfl
set_option maxRecDepth 100000 in
theorem hl_RX13_102 : u_lay RX13 TX13 102 ∈ jw := jin (jt_8 _ (List.mem_of_getElem? (i := 123) rfl)) rfl
set_option maxRecDepth 100000 in
theorem hl_RX13_103 : u_lay RX13 TX13 103 ∈ jw := jin (jt_8 _ (List.mem_of_getElem? (i := 125) rfl)) rfl
set_option maxRecDepth 100000 in
theorem hin_RX13 : ∀ w ∈ u_ws RX13 TX13 104, w ∈ jw := by
  intro w h
  obtain ⟨k, hk, rfl⟩ := List.mem_map.mp h
  have hk := List.mem_range.mp hk
  rcases (show k = 0 ∨ k = 1 ∨ k = 2 ∨ k = 3 ∨ k = 4 ∨ k = 5 ∨ k = 6 ∨ k = 7 ∨ k = 8 ∨ k = 9 ∨ k = 10 ∨ k = 11 ∨ k = 12 ∨ k = 13 ∨ k = 14 ∨ k = 15 ∨ k = 16 ∨ k = 17 ∨ k = 18 ∨ k = 19 ∨ k = 20 ∨ k = 21 ∨ k = 22 ∨ k = 23 ∨ k = 24 ∨ k = 25 ∨ k = 26 ∨ k = 27 ∨ k = 28 ∨ k = 29 ∨ k = 30 ∨ k = 31 ∨ k = 32 ∨ k = 33 ∨ k = 34 ∨ k = 35 ∨ k = 36 ∨ k = 37 ∨ k = 38 ∨ k = 39 ∨ k = 40 ∨ k = 41 ∨ k = 42 ∨ k = 43 ∨ k = 44 ∨ k = 45 ∨ k = 46 ∨ k = 47 ∨ k = 48 ∨ k = 49 ∨ k = 50 ∨ k = 51 ∨ k = 52 ∨ k = 53 ∨ k = 54 ∨ k = 55 ∨ k = 56 ∨ k = 57 ∨ k = 58 ∨ k = 59 ∨ k = 60 ∨ k = 61 ∨ k = 62 ∨ k = 63 ∨ k = 64 ∨ k = 65 ∨ k = 66 ∨ k = 67 ∨ k = 68 ∨ k = 69 ∨ k = 70 ∨ k = 71 ∨ k = 72 ∨ k = 73 ∨ k = 74 ∨ k = 75 ∨ k = 76 ∨ k = 77 ∨ k = 78 ∨ k = 79 ∨ k = 80 ∨ k = 81 ∨ k = 82 ∨ k = 83 ∨ k = 84 ∨ k = 85 ∨ k = 86 ∨ k = 87 ∨ k = 88 ∨ k = 89 ∨ k = 90 ∨ k = 91 ∨ k = 92 ∨ k = 93 ∨ k = 94 ∨ k = 95 ∨ k = 96 ∨ k = 97 ∨ k = 98 ∨ k = 99 ∨ k = 100 ∨ k = 101 ∨ k = 102 ∨ k = 103 by omega) with rfl | rfl | rfl | rfl | rfl | rfl | rfl | rfl | rfl | rfl | rfl | rfl | rfl | rfl | rfl | rfl | rfl | rfl | rfl | rfl | rfl | rfl | rfl | rfl | rfl | rfl | rfl | rfl | rfl | rfl | rfl | rfl | rfl | rfl | rfl | rfl | rfl | rfl | rfl | rfl | rfl | rfl | rfl | rfl | rfl | rfl | rfl | rfl | rfl | rfl | rfl | rfl | rfl | rfl | rfl | rfl | rfl | rfl | rfl | rfl | rfl | rfl | rfl | rfl | rfl | rfl | rfl | rfl | rfl | rfl | rfl | rfl | rfl | rfl | rfl | rfl | rfl | rfl | rfl | rfl | rfl | rfl | rfl | rfl | rfl | rfl | rfl | rfl | rfl | rfl | rfl | rfl | rfl | rfl | rfl | rfl | rfl | rfl | rfl | rfl | rfl | rfl | rfl | rfl
  · exact hl_RX13_0
  · exact hl_RX13_1
  · exact hl_RX13_2
  · exact hl_RX13_3
  · exact hl_RX13_4
  · exact hl_RX13_5
  · exact hl_RX13_6
  · exact hl_RX13_7
  · exact hl_RX13_8
  · exact hl_RX13_9
  · exact hl_RX13_10
  · exact hl_RX13_11
  · exact hl_RX13_12
  · exact hl_RX13_13
  · exact hl_RX13_14
  · exact hl_RX13_15
  · exact hl_RX13_16
  · exact hl_RX13_17
  · exact hl_RX13_18
  · exact hl_RX13_19
  · exact hl_RX13_20
  · exact hl_RX13_21
  · exact hl_RX13_22
  · exact hl_RX13_23
  · exact hl_RX13_24
  · exact hl_RX13_25
  · exact hl_RX13_26
  · exact hl_RX13_27
  · exact hl_RX13_28
  · exact hl_RX13_29
  · exact hl_RX13_30
  · exact hl_RX13_31
  · exact hl_RX13_32
  · exact hl_RX13_33
  · exact hl_RX13_34
  · exact hl_RX13_35
  · exact hl_RX13_36
  · exact hl_RX13_37
  · exact hl_RX13_38
  · exact hl_RX13_39
  · exact hl_RX13_40
  · exact hl_RX13_41
  · exact hl_RX13_42
  · exact hl_RX13_43
  · exact hl_RX13_44
  · exact hl_RX13_45
  · exact hl_RX13_46
  · exact hl_RX13_47
  · exact hl_RX13_48
  · exact hl_RX13_49
  · exact hl_RX13_50
  · exact hl_RX13_51
  · exact hl_RX13_52
  · exact hl_RX13_53
  · exact hl_RX13_54
  · exact hl_RX13_55
  · exact hl_RX13_56
  · exact hl_RX13_57
  · exact hl_RX13_58
  · exact hl_RX13_59
  · exact hl_RX13_60
  · exact hl_RX13_61
  · exact hl_RX13_62
  · exact hl_RX13_63
  · exact hl_RX13_64
  · exact hl_RX13_65
  · exact hl_RX13_66
  · exact hl_RX13_67
  · exact hl_RX13_68
  · exact hl_RX13_69
  · exact hl_RX13_70
  · exact hl_RX13_71
  · exact hl_RX13_72
  · exact hl_RX13_73
  · exact hl_RX13_74
  · exact hl_RX13_75
  · exact hl_RX13_76
  · exact hl_RX13_77
  · exact hl_RX13_78
  · exact hl_RX13_79
  · exact hl_RX13_80
  · exact hl_RX13_81
  · exact hl_RX13_82
  · exact hl_RX13_83
  · exact hl_RX13_84
  · exact hl_RX13_85
  · exact hl_RX13_86
  · exact hl_RX13_87
  · exact hl_RX13_88
  · exact hl_RX13_89
  · exact hl_RX13_90
  · exact hl_RX13_91
  · exact hl_RX13_92
  · exact hl_RX13_93
  · exact hl_RX13_94
  · exact hl_RX13_95
  · exact hl_RX13_96
  · exact hl_RX13_97
  · exact hl_RX13_98
  · exact hl_RX13_99
  · exact hl_RX13_100
  · exact hl_RX13_101
  · exact hl_RX13_102
  · exact hl_RX13_103
set_option maxRecDepth 100000 in
theorem hl_RX2_0 : u_lay RX2 TX2 0 ∈ jw := jin (jt_5 _ (List.mem_of_getElem? (i := 35) rfl)) rfl
set_option maxRecDepth 100000 in
theorem hl_RX2_1 : u_lay RX2 TX2 1 ∈ jw := jin (jt_5 _ (List.mem_of_getElem? (i := 37) rfl)) rfl
set_option maxRecDepth 100000 in
theorem hl_RX2_2 : u_lay RX2 TX2 2 ∈ jw := jin (jt_5 _ (List.mem_of_getElem? (i := 39) rfl)) rfl
set_option maxRecDepth 100000 in
theorem hl_RX2_3 : u_lay RX2 TX2 3 ∈ jw := jin (jt_5 _ (List.mem_of_getElem? (i := 41) rfl)) rfl
set_option maxRecDepth 100000 in
theorem hl_RX2_4 : u_lay RX2 TX2 4 ∈ jw := jin (jt_5 _ (List.mem_of_getElem? (i := 43) rfl)) rfl
set_option maxRecDepth 100000 in
theorem hl_RX2_5 : u_lay RX2 TX2 5 ∈ jw := jin (jt_5 _ (List.mem_of_getElem? (i := 45) rfl)) rfl
set_option maxRecDepth 100000 in
theorem hin_RX2 : ∀ w ∈ u_ws RX2 TX2 6, w ∈ jw := by
  intro w h
  obtain ⟨k, hk, rfl⟩ := List.mem_map.mp h
  have hk := List.mem_range.mp hk
  rcases (show k = 0 ∨ k = 1 ∨ k = 2 ∨ k = 3 ∨ k = 4 ∨ k = 5 by omega) with rfl | rfl | rfl | rfl | rfl | rfl
  · exact hl_RX2_0
  · exact hl_RX2_1
  · exact hl_RX2_2
  · exact hl_RX2_3
  · exact hl_RX2_4
  · exact hl_RX2_5
set_option maxRecDepth 100000 in
theorem hl_RX3_0 : u_lay RX3 TX3 0 ∈ jw := jin (jt_2 _ (List.mem_of_getElem? (i := 15) rfl)) rfl
set_option maxRecDepth 100000 in
theorem hl_RX3_1 : u_lay RX3 TX3 1 ∈ jw := jin (jt_2 _ (List.mem_of_getElem? (i := 17) rfl)) rfl
set_option maxRecDepth 100000 in
theorem hl_RX3_2 : u_lay RX3 TX3 2 ∈ jw := jin (jt_2 _ (List.mem_of_getElem? (i := 19) rfl)) rfl
set_option maxRecDepth 100000 in
theorem hl_RX3_3 : u_lay RX3 TX3 3 ∈ jw := jin (jt_2 _ (List.mem_of_getElem? (i := 21) rfl)) rfl
set_option maxRecDepth 100000 in
theorem hl_RX3_4 : u_lay RX3 TX3 4 ∈ jw := jin (jt_2 _ (List.mem_of_getElem? (i := 23) rfl)) rfl
set_option maxRecDepth 100000 in
theorem hl_RX3_5 : u_lay RX3 TX3 5 ∈ jw := jin (jt_2 _ (List.mem_of_getElem? (i := 25) rfl)) rfl
set_option maxRecDepth 100000 in
theorem hl_RX3_6 : u_lay RX3 TX3 6 ∈ jw := jin (jt_2 _ (List.mem_of_getElem? (i := 27) rfl)) rfl
set_option maxRecDepth 100000 in
theorem hin_RX3 : ∀ w ∈ u_ws RX3 TX3 7, w ∈ jw := by
  intro w h
  obtain ⟨k, hk, rfl⟩ := List.mem_map.mp h
  have hk := List.mem_range.mp hk
  rcases (show k = 0 ∨ k = 1 ∨ k = 2 ∨ k = 3 ∨ k = 4 ∨ k = 5 ∨ k = 6 by omega) with rfl | rfl | rfl | rfl | rfl | rfl | rfl
  · exact hl_RX3_0
  · exact hl_RX3_1
  · exact hl_RX3_2
  · exact hl_RX3_3
  · exact hl_RX3_4
  · exact hl_RX3_5
  · exact hl_RX3_6
set_option maxRecDepth 100000 in
theorem hl_RX4_0 : u_lay RX4 TX4 0 ∈ jw := jin (jt_5 _ (List.mem_of_getElem? (i := 149) rfl)) rfl
set_option maxRecDepth 100000 in
theorem hl_RX4_1 : u_lay RX4 TX4 1 ∈ jw := jin (jt_5 _ (List.mem_of_getElem? (i := 151) rfl)) rfl
set_option maxRecDepth 100000 in
theorem hl_RX4_2 : u_lay RX4 TX4 2 ∈ jw := jin (jt_5 _ (List.mem_of_getElem? (i := 153) rfl)) rfl
set_option maxRecDepth 100000 in
theorem hl_RX4_3 : u_lay RX4 TX4 3 ∈ jw := jin (jt_5 _ (List.mem_of_getElem? (i := 155) rfl)) rfl
set_option maxRecDepth 100000 in
theorem hl_RX4_4 : u_lay RX4 TX4 4 ∈ jw := jin (jt_5 _ (List.mem_of_getElem? (i := 157) rfl)) rfl
set_option maxRecDepth 100000 in
theorem hl_RX4_5 : u_lay RX4 TX4 5 ∈ jw := jin (jt_5 _ (List.mem_of_getElem? (i := 159) rfl)) rfl
set_option maxRecDepth 100000 in
theorem hl_RX4_6 : u_lay RX4 TX4 6 ∈ jw := jin (jt_5 _ (List.mem_of_getElem? (i := 161) rfl)) rfl
set_option maxRecDepth 100000 in
theorem hl_RX4_7 : u_lay RX4 TX4 7 ∈ jw := jin (jt_5 _ (List.mem_of_getElem? (i := 163) rfl)) rfl
set_option maxRecDepth 100000 in
theorem hl_RX4_8 : u_lay RX4 TX4 8 ∈ jw := jin (jt_5 _ (List.mem_of_getElem? (i := 165) rfl)) rfl
set_option maxRecDepth 100000 in
theorem hin_RX4 : ∀ w ∈ u_ws RX4 TX4 9, w ∈ jw := by
  intro w h
  obtain ⟨k, hk, rfl⟩ := List.mem_map.mp h
  have hk := List.mem_range.mp hk
  rcases (show k = 0 ∨ k = 1 ∨ k = 2 ∨ k = 3 ∨ k = 4 ∨ k = 5 ∨ k = 6 ∨ k = 7 ∨ k = 8 by omega) with rfl | rfl | rfl | rfl | rfl | rfl | rfl | rfl | rfl
  · exact hl_RX4_0
  · exact hl_RX4_1
  · exact hl_RX4_2
  · exact hl_RX4_3
  · exact hl_RX4_4
  · exact hl_RX4_5
  · exact hl_RX4_6
  · exact hl_RX4_7
  · exact hl_RX4_8
set_option maxRecDepth 100000 in
theorem hl_RX5_0 : u_lay RX5 TX5 0 ∈ jw := jin (jt_1 _ (List.mem_of_getElem? (i := 214) rfl)) rfl
set_option maxRecDepth 100000 in
theorem hl_RX5_1 : u_lay RX5 TX5 1 ∈ jw := jin (jt_1 _ (List.mem_of_getElem? (i := 216) rfl)) rfl
set_option maxRecDepth 100000 in
theorem hl_RX5_2 : u_lay RX5 TX5 2 ∈ jw := jin (jt_1 _ (List.mem_of_getElem? (i := 218) rfl)) rfl
set_option maxRecDepth 100000 in
theorem hl_RX5_3 : u_lay RX5 TX5 3 ∈ jw := jin (jt_1 _ (List.mem_of_getElem? (i := 220) rfl)) rfl
set_option maxRecDepth 100000 in
theorem hl_RX5_4 : u_lay RX5 TX5 4 ∈ jw := jin (jt_1 _ (List.mem_of_getElem? (i := 222) rfl)) rfl
set_option maxRecDepth 100000 in
theorem hl_RX5_5 : u_lay RX5 TX5 5 ∈ jw := jin (jt_1 _ (List.mem_of_getElem? (i := 224) rfl)) rfl
set_option maxRecDepth 100000 in
theorem hl_RX5_6 : u_lay RX5 TX5 6 ∈ jw := jin (jt_1 _ (List.mem_of_getElem? (i := 226) rfl)) rfl
set_option maxRecDepth 100000 in
theorem hl_RX5_7 : u_lay RX5 TX5 7 ∈ jw := jin (jt_1 _ (List.mem_of_getElem? (i := 228) rfl)) rfl
set_option maxRecDepth 100000 in
theorem hl_RX5_8 : u_lay RX5 TX5 8 ∈ jw := jin (jt_1 _ (List.mem_of_getElem? (i := 230) rfl)) rfl
set_option maxRecDepth 100000 in
theorem hl_RX5_9 : u_lay RX5 TX5 9 ∈ jw := jin (jt_1 _ (List.mem_of_getElem? (i := 232) rfl)) rfl
set_option maxRecDepth 100000 in
theorem hl_RX5_10 : u_lay RX5 TX5 10 ∈ jw := jin (jt_1 _ (List.mem_of_getElem? (i := 234) rfl)) rfl
set_option maxRecDepth 100000 in
theorem hl_RX5_11 : u_lay RX5 TX5 11 ∈ jw := jin (jt_1 _ (List.mem_of_getElem? (i := 236) rfl)) rfl
set_option maxRecDepth 100000 in
theorem hin_RX5 : ∀ w ∈ u_ws RX5 TX5 12, w ∈ jw := by
  intro w h
  obtain ⟨k, hk, rfl⟩ := List.mem_map.mp h
  have hk := List.mem_range.mp hk
  rcases (show k = 0 ∨ k = 1 ∨ k = 2 ∨ k = 3 ∨ k = 4 ∨ k = 5 ∨ k = 6 ∨ k = 7 ∨ k = 8 ∨ k = 9 ∨ k = 10 ∨ k = 11 by omega) with rfl | rfl | rfl | rfl | rfl | rfl | rfl | rfl | rfl | rfl | rfl | rfl
  · exact hl_RX5_0
  · exact hl_RX5_1
  · exact hl_RX5_2
  · exact hl_RX5_3
  · exact hl_RX5_4
  · exact hl_RX5_5
  · exact hl_RX5_6
  · exact hl_RX5_7
  · exact hl_RX5_8
  · exact hl_RX5_9
  · exact hl_RX5_10
  · exact hl_RX5_11
set_option maxRecDepth 100000 in
theorem hl_RX6_0 : u_lay RX6 TX6 0 ∈ jw := jin (jt_1 _ (List.mem_of_getElem? (i := 136) rfl)) rfl
set_option maxRecDepth 100000 in
theorem hl_RX6_1 : u_lay RX6 TX6 1 ∈ jw := jin (jt_1 _ (List.mem_of_getElem? (i := 138) rfl)) rfl
set_option maxRecDepth 100000 in
theorem hl_RX6_2 : u_lay RX6 TX6 2 ∈ jw := jin (jt_1 _ (List.mem_of_getElem? (i := 140) rfl)) rfl
set_option maxRecDepth 100000 in
theorem hl_RX6_3 : u_lay RX6 TX6 3 ∈ jw := jin (jt_1 _ (List.mem_of_getElem? (i := 142) rfl)) rfl
set_option maxRecDepth 100000 in
theorem hl_RX6_4 : u_lay RX6 TX6 4 ∈ jw := jin (jt_1 _ (List.mem_of_getElem? (i := 144) rfl)) rfl
set_option maxRecDepth 100000 in
theorem hl_RX6_5 : u_lay RX6 TX6 5 ∈ jw := jin (jt_1 _ (List.mem_of_getElem? (i := 146) rfl)) rfl
set_option maxRecDepth 100000 in
theorem hin_RX6 : ∀ w ∈ u_ws RX6 TX6 6, w ∈ jw := by
  intro w h
  obtain ⟨k, hk, rfl⟩ := List.mem_map.mp h
  have hk := List.mem_range.mp hk
  rcases (show k = 0 ∨ k = 1 ∨ k = 2 ∨ k = 3 ∨ k = 4 ∨ k = 5 by omega) with rfl | rfl | rfl | rfl | rfl | rfl
  · exact hl_RX6_0
  · exact hl_RX6_1
  · exact hl_RX6_2
  · exact hl_RX6_3
  · exact hl_RX6_4
  · exact hl_RX6_5
set_option maxRecDepth 100000 in
theorem hl_RX7_0 : u_lay RX7 TX7 0 ∈ jw := jin (jt_1 _ (List.mem_of_getElem? (i := 55) rfl)) rfl
set_option maxRecDepth 100000 in
theorem hl_RX7_1 : u_lay RX7 TX7 1 ∈ jw := jin (jt_1 _ (List.mem_of_getElem? (i := 57) rfl)) rfl
set_option maxRecDepth 100000 in
theorem hl_RX7_2 : u_lay RX7 TX7 2 ∈ jw := jin (jt_1 _ (List.mem_of_getElem? (i := 59) rfl)) rfl
set_option maxRecDepth 100000 in
theorem hl_RX7_3 : u_lay RX7 TX7 3 ∈ jw := jin (jt_1 _ (List.mem_of_getElem? (i := 61) rfl)) rfl
set_option maxRecDepth 100000 in
theorem hl_RX7_4 : u_lay RX7 TX7 4 ∈ jw := jin (jt_1 _ (List.mem_of_getElem? (i := 63) rfl)) rfl
set_option maxRecDepth 100000 in
theorem hl_RX7_5 : u_lay RX7 TX7 5 ∈ jw := jin (jt_1 _ (List.mem_of_getElem? (i := 65) rfl)) rfl
set_option maxRecDepth 100000 in
theorem hl_RX7_6 : u_lay RX7 TX7 6 ∈ jw := jin (jt_1 _ (List.mem_of_getElem? (i := 67) rfl)) rfl
set_option maxRecDepth 100000 in
theorem hl_RX7_7 : u_lay RX7 TX7 7 ∈ jw := jin (jt_1 _ (List.mem_of_getElem? (i := 69) rfl)) rfl
set_option maxRecDepth 100000 in
theorem hl_RX7_8 : u_lay RX7 TX7 8 ∈ jw := jin (jt_1 _ (List.mem_of_getElem? (i := 71) rfl)) rfl
set_option maxRecDepth 100000 in
theorem hl_RX7_9 : u_lay RX7 TX7 9 ∈ jw := jin (jt_1 _ (List.mem_of_getElem? (i := 73) rfl)) rfl
set_option maxRecDepth 100000 in
theorem hl_RX7_10 : u_lay RX7 TX7 10 ∈ jw := jin (jt_1 _ (List.mem_of_getElem? (i := 75) rfl)) rfl
set_option maxRecDepth 100000 in
theorem hl_RX7_11 : u_lay RX7 TX7 11 ∈ jw := jin (jt_1 _ (List.mem_of_getElem? (i := 77) rfl)) rfl
set_option maxRecDepth 100000 in
theorem hl_RX7_12 : u_lay RX7 TX7 12 ∈ jw := jin (jt_1 _ (List.mem_of_getElem? (i := 79) rfl)) rfl
set_option maxRecDepth 100000 in
theorem hl_RX7_13 : u_lay RX7 TX7 13 ∈ jw := jin (jt_1 _ (List.mem_of_getElem? (i := 81) rfl)) rfl
set_option maxRecDepth 100000 in
theorem hl_RX7_14 : u_lay RX7 TX7 14 ∈ jw := jin (jt_1 _ (List.mem_of_getElem? (i := 83) rfl)) rfl
set_option maxRecDepth 100000 in
theorem hin_RX7 : ∀ w ∈ u_ws RX7 TX7 15, w ∈ jw := by
  intro w h
  obtain ⟨k, hk, rfl⟩ := List.mem_map.mp h
  have hk := List.mem_range.mp hk
  rcases (show k = 0 ∨ k = 1 ∨ k = 2 ∨ k = 3 ∨ k = 4 ∨ k = 5 ∨ k = 6 ∨ k = 7 ∨ k = 8 ∨ k = 9 ∨ k = 10 ∨ k = 11 ∨ k = 12 ∨ k = 13 ∨ k = 14 by omega) with rfl | rfl | rfl | rfl | rfl | rfl | rfl | rfl | rfl | rfl | rfl | rfl | rfl | rfl | rfl
  · exact hl_RX7_0
  · exact hl_RX7_1
  · exact hl_RX7_2
  · exact hl_RX7_3
  · exact hl_RX7_4
  · exact hl_RX7_5
  · exact hl_RX7_6
  · exact hl_RX7_7
  · exact hl_RX7_8
  · exact hl_RX7_9
  · exact hl_RX7_10
  · exact hl_RX7_11
  · exact hl_RX7_12
  · exact hl_RX7_13
  · exact hl_RX7_14
set_option maxRecDepth 100000 in
theorem hl_RX8_0 : u_lay RX8 TX8 0 ∈ jw := jin (jt_1 _ (List.mem_of_getElem? (i := 106) rfl)) rfl
set_option maxRecDepth 100000 in
theorem hl_RX8_1 : u_lay RX8 TX8 1 ∈ jw := jin (jt_1 _ (List.mem_of_getElem? (i := 108) rfl)) rfl
set_option maxRecDepth 100000 in
theorem hl_RX8_2 : u_lay RX8 TX8 2 ∈ jw := jin (jt_1 _ (List.mem_of_getElem? (i := 110) rfl)) rfl
set_option maxRecDepth 100000 in
theorem hl_RX8_3 : u_lay RX8 TX8 3 ∈ jw := jin (jt_1 _ (List.mem_of_getElem? (i := 112) rfl)) rfl
set_option maxRecDepth 100000 in
theorem hl_RX8_4 : u_lay RX8 TX8 4 ∈ jw := jin (jt_1 _ (List.mem_of_getElem? (i := 114) rfl)) rfl
set_option maxRecDepth 100000 in
theorem hl_RX8_5 : u_lay RX8 TX8 5 ∈ jw := jin (jt_1 _ (List.mem_of_getElem? (i := 116) rfl)) rfl
set_option maxRecDepth 100000 in
theorem hl_RX8_6 : u_lay RX8 TX8 6 ∈ jw := jin (jt_1 _ (List.mem_of_getElem? (i := 118) rfl)) rfl
set_option maxRecDepth 100000 in
theorem hl_RX8_7 : u_lay RX8 TX8 7 ∈ jw := jin (jt_1 _ (List.mem_of_getElem? (i := 120) rfl)) rfl
set_option maxRecDepth 100000 in
theorem hin_RX8 : ∀ w ∈ u_ws RX8 TX8 8, w ∈ jw := by
  intro w h
  obtain ⟨k, hk, rfl⟩ := List.mem_map.mp h
  have hk := List.mem_range.mp hk
  rcases (show k = 0 ∨ k = 1 ∨ k = 2 ∨ k = 3 ∨ k = 4 ∨ k = 5 ∨ k = 6 ∨ k = 7 by omega) with rfl | rfl | rfl | rfl | rfl | rfl | rfl | rfl
  · exact hl_RX8_0
  · exact hl_RX8_1
  · exact hl_RX8_2
  · exact hl_RX8_3
  · exact hl_RX8_4
  · exact hl_RX8_5
  · exact hl_RX8_6
  · exact hl_RX8_7
set_option maxRecDepth 100000 in
theorem hl_RX9_0 : u_lay RX9 TX9 0 ∈ jw := jin (jt_3 _ (List.mem_of_getElem? (i := 175) rfl)) rfl
set_option maxRecDepth 100000 in
theorem hl_RX9_1 : u_lay RX9 TX9 1 ∈ jw := jin (jt_3 _ (List.mem_of_getElem? (i := 177) rfl)) rfl
set_option maxRecDepth 100000 in
theorem hl_RX9_2 : u_lay RX9 TX9 2 ∈ jw := jin (jt_3 _ (List.mem_of_getElem? (i := 179) rfl)) rfl
set_option maxRecDepth 100000 in
theorem hl_RX9_3 : u_lay RX9 TX9 3 ∈ jw := jin (jt_3 _ (List.mem_of_getElem? (i := 181) rfl)) rfl
set_option maxRecDepth 100000 in
theorem hin_RX9 : ∀ w ∈ u_ws RX9 TX9 4, w ∈ jw := by
  intro w h
  obtain ⟨k, hk, rfl⟩ := List.mem_map.mp h
  have hk := List.mem_range.mp hk
  rcases (show k = 0 ∨ k = 1 ∨ k = 2 ∨ k = 3 by omega) with rfl | rfl | rfl | rfl
  · exact hl_RX9_0
  · exact hl_RX9_1
  · exact hl_RX9_2
  · exact hl_RX9_3
