set_option maxRecDepth 100000 in
theorem m_509 : (.constantLong RX13 246 (-1000000) : Cond) ∈ jw := jin (jt_9 _ (List.mem_of_getElem? (i := 82) rfl)) rfl
set_option maxRecDepth 100000 in
theorem m_510 : (.constantLong RX13 249 1000000 : Cond) ∈ jw := jin (jt_9 _ (List.mem_of_getElem? (i := 84) rfl)) rfl
