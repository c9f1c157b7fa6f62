set_option maxRecDepth 20000 in
theorem hin_X12_count_RX12 : ∀ w ∈ u_ws RX12 TX12 20, w ∈ wsX12_count := by decide +kernel
set_option maxRecDepth 20000 in
theorem hin_X12_count_RX5 : ∀ w ∈ u_ws RX5 TX5 12, w ∈ wsX12_count := by decide +kernel
set_option maxRecDepth 20000 in
theorem hin_X12_count_RX7 : ∀ w ∈ u_ws RX7 TX7 15, w ∈ wsX12_count := by decide +kernel
set_option maxRecDepth 20000 in
theorem hin_X12_count_RX8 : ∀ w ∈ u_ws RX8 TX8 8, w ∈ wsX12_count := by decide +kernel
set_option maxRecDepth 20000 in
theorem hin_X12_entryAt_RX12 : ∀ w ∈ u_ws RX12 TX12 20, w ∈ wsX12_entryAt := by decide +kernel
set_option maxRecDepth 20000 in
theorem hin_X12_fault_RX12 : ∀ w ∈ u_ws RX12 TX12 20, w ∈ wsX12_fault := by decide +kernel
set_option maxRecDepth 20000 in
theorem hin_X12_force_RX12 : ∀ w ∈ u_ws RX12 TX12 20, w ∈ wsX12_force := by decide +kernel
set_option maxRecDepth 20000 in
theorem hin_X12_forget_RX10 : ∀ w ∈ u_ws RX10 TX10 3, w ∈ wsX12_forget := by decide +kernel
set_option maxRecDepth 20000 in
theorem hin_X12_forget_RX12 : ∀ w ∈ u_ws RX12 TX12 20, w ∈ wsX12_forget := by decide +kernel
set_option maxRecDepth 20000 in
theorem hin_X12_hand_RX12 : ∀ w ∈ u_ws RX12 TX12 20, w ∈ wsX12_hand := by decide +kernel
set_option maxRecDepth 20000 in
theorem hin_X12_hand_RX2 : ∀ w ∈ u_ws RX2 TX2 6, w ∈ wsX12_hand := by decide +kernel
set_option maxRecDepth 20000 in
theorem hin_X12_handAt_RX12 : ∀ w ∈ u_ws RX12 TX12 20, w ∈ wsX12_handAt := by decide +kernel
set_option maxRecDepth 20000 in
theorem hin_X12_isSet_RX12 : ∀ w ∈ u_ws RX12 TX12 20, w ∈ wsX12_isSet := by decide +kernel
set_option maxRecDepth 20000 in
theorem hin_X12_known_RX12 : ∀ w ∈ u_ws RX12 TX12 20, w ∈ wsX12_known := by decide +kernel
set_option maxRecDepth 20000 in
theorem hin_X12_payOfAll_RX12 : ∀ w ∈ u_ws RX12 TX12 20, w ∈ wsX12_payOfAll := by decide +kernel
set_option maxRecDepth 20000 in
theorem hin_X12_rule_RX12 : ∀ w ∈ u_ws RX12 TX12 20, w ∈ wsX12_rule := by decide +kernel
set_option maxRecDepth 20000 in
theorem hin_X12_tell_RX12 : ∀ w ∈ u_ws RX12 TX12 20, w ∈ wsX12_tell := by decide +kernel
set_option maxRecDepth 20000 in
theorem hin_X13_init_RX13 : ∀ w ∈ u_ws RX13 TX13 104, w ∈ wsX13_init := by decide +kernel
set_option maxRecDepth 20000 in
theorem hin_X2_init_RX2 : ∀ w ∈ u_ws RX2 TX2 6, w ∈ wsX2_init := by decide +kernel
set_option maxRecDepth 20000 in
theorem hin_X5_addFact_RX5 : ∀ w ∈ u_ws RX5 TX5 12, w ∈ wsX5_addFact := by decide +kernel
set_option maxRecDepth 20000 in
theorem hin_X5_tellOn_RX5 : ∀ w ∈ u_ws RX5 TX5 12, w ∈ wsX5_tellOn := by decide +kernel
set_option maxRecDepth 20000 in
theorem hin_X7_addToken_RX7 : ∀ w ∈ u_ws RX7 TX7 15, w ∈ wsX7_addToken := by decide +kernel
set_option maxRecDepth 20000 in
theorem hin_X7_byteAt_RX7 : ∀ w ∈ u_ws RX7 TX7 15, w ∈ wsX7_byteAt := by decide +kernel
set_option maxRecDepth 20000 in
theorem hin_X7_kind_RX7 : ∀ w ∈ u_ws RX7 TX7 15, w ∈ wsX7_kind := by decide +kernel
set_option maxRecDepth 20000 in
theorem hin_X7_kindAt_RX7 : ∀ w ∈ u_ws RX7 TX7 15, w ∈ wsX7_kindAt := by decide +kernel
set_option maxRecDepth 20000 in
theorem hin_X7_parse_RX7 : ∀ w ∈ u_ws RX7 TX7 15, w ∈ wsX7_parse := by decide +kernel
set_option maxRecDepth 20000 in
theorem hin_X7_scan_RX7 : ∀ w ∈ u_ws RX7 TX7 15, w ∈ wsX7_scan := by decide +kernel
set_option maxRecDepth 20000 in
theorem hin_X7_stopAt_RX7 : ∀ w ∈ u_ws RX7 TX7 15, w ∈ wsX7_stopAt := by decide +kernel
set_option maxRecDepth 20000 in
theorem hin_X8_inForce_RX8 : ∀ w ∈ u_ws RX8 TX8 8, w ∈ wsX8_inForce := by decide +kernel
set_option maxRecDepth 20000 in
theorem hin_X8_put_RX8 : ∀ w ∈ u_ws RX8 TX8 8, w ∈ wsX8_put := by decide +kernel
